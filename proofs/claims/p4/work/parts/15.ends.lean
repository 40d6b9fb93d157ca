set_option maxHeartbeats 4000000 in
set_option maxRecDepth 100000 in
theorem c_X2_setBit (l : Launch) (D : va_G) (K : zK) (hO : zOk K) (vi va : Nat → Nat → Int32) (vg : Nat → Nat → Option Nat) (hI : zI K (vi, va, vg)) (a0 : Nat) (ha0 : a0 ∈ zl K) (hk0 : zk K a0 = 2) (x1 : Int32) (x2 : Int32) : Met l yX2_setBit (zc yX2_setBit cX2_setBit 3 none) (rmd 0) (va_Pc [.ref a0, .int x1, .int x2] (zB D K (vi, va, vg))) (zQv D K (fun V' => zI K V' ∧ V'.2.2 = vg)) 0 0 (zA K) := by
  refine zin (by decide) (Nat.le_of_ble_eq_true rfl) ?_
  intro p e s m args below meth c ls Q hQ C hr hlk hP hs hl
  have C : CallFix p m c cX2_setBit 3 s args zw RX2 := C
  obtain ⟨hx, hb, hml, hown, hts⟩ := id C
  have hS : va_S (zA K) s.heap s.heap [] := va_S.rf
  have hl : lv_has ls 3 [(0, .ref a0), (1, .int x1), (2, .int x2)] := hl
  refine lv_iload_n hx hb dX2_setBit_0 rfl (lv_at hl 1 rfl) ?_
  refine bz_lt (tgt := 17) hx hb rfl dX2_setBit_1 (by decide) (fun c_1 => ?_) (fun c_1 => ?_)
  · skip
    exact zaV hQ hx hb hr hlk hP hS ⟨hI, rfl⟩ dX2_setBit_17
  · skip
    refine lv_iload_n hx hb dX2_setBit_4 rfl (lv_at hl 1 rfl) ?_
    refine lv_bipush (v := 60) hx hb dX2_setBit_5 (by decide) ?_
    refine bi_ge (tgt := 17) hx hb rfl ti_60 dX2_setBit_7 (by decide) (fun c_2 => ?_) (fun c_2 => ?_)
    · skip
      exact zaV hQ hx hb hr hlk hP hS ⟨hI, rfl⟩ dX2_setBit_17
    · skip
      refine lv_aload_n hx hb dX2_setBit_10 rfl (lv_at hl 0 rfl) ?_
      refine zg_2_3 C hs hP ha0 hk0 wf_X2_27 dX2_setBit_11 ?_
      have hf_3 := hO.r (j := 3) ha0 hk0 (rfl : zX 2 3 = some (20, 60))
      refine lv_iload_n hx hb dX2_setBit_14 rfl (lv_at hl 1 rfl) ?_
      refine lv_iload_n hx hb dX2_setBit_15 rfl (lv_at hl 2 rfl) ?_
      have g_5 := z_rng x1
      have hin_4 : vp_in x1 (zn K (zr K a0 3)) := vp_in_iff.mpr (by rw [(hf_3.2.2 (by decide))]; refine ⟨?_, ?_⟩ <;> omega)
      refine ks_20 C hO hs hP hS hf_3.1 hf_3.2.1 hI hin_4 dX2_setBit_16 (fun va_6 H locs hI hP hS => ?_)
      exact zaV hQ hx hb hr hlk hP hS ⟨hI, rfl⟩ dX2_setBit_17
set_option maxHeartbeats 4000000 in
set_option maxRecDepth 100000 in
theorem c_X2_begin (l : Launch) (D : va_G) (K : zK) (hO : zOk K) (vi va : Nat → Nat → Int32) (vg : Nat → Nat → Option Nat) (hI : zI K (vi, va, vg)) (a0 : Nat) (ha0 : a0 ∈ zl K) (hk0 : zk K a0 = 2) (a1 : Nat) (ha1 : a1 ∈ zl K) (hk1 : zk K a1 = 8) (x2 : Int32) : Met l yX2_begin (zc yX2_begin cX2_begin 5 none) (rmd 3) (va_Pc [.ref a0, .ref a1, .int x2] (zB D K (vi, va, vg))) (zQv D K (fun V' => zI K V')) 0 0 (zA K) := by
  refine zin (by decide) (Nat.le_of_ble_eq_true rfl) ?_
  intro p e s m args below meth c ls Q hQ C hr hlk hP hs hl
  have C : CallFix p m c cX2_begin 5 s args zw RX2 := C
  obtain ⟨hx, hb, hml, hown, hts⟩ := id C
  have hS : va_S (zA K) s.heap s.heap [] := va_S.rf
  have hl : lv_has ls 5 [(0, .ref a0), (1, .ref a1), (2, .int x2)] := hl
  refine lv_aload_n hx hb dX2_begin_0 rfl (lv_at hl 0 rfl) ?_
  refine lv_aload_n hx hb dX2_begin_1 rfl (lv_at hl 1 rfl) ?_
  refine kg_2_7 C hO hs hP hS ha0 hk0 wf_X2_45 hI ⟨ha1, hk1⟩ dX2_begin_2 (fun vg_1 H locs ht_1 hI hP hS => ?_)
  refine lv_aload_n hx hb dX2_begin_5 rfl (lv_at hl 0 rfl) ?_
  refine lv_iload_n hx hb dX2_begin_6 rfl (lv_at hl 2 rfl) ?_
  refine kp_2_9 C hO hs hP hS ha0 hk0 wf_X2_49 hI dX2_begin_7 (fun vi_2 H locs hI hP hS => ?_)
  refine lv_aload_n hx hb dX2_begin_10 rfl (lv_at hl 0 rfl) ?_
  refine lv_aload_n hx hb dX2_begin_11 rfl (lv_at hl 1 rfl) ?_
  rcases hg_3 : vg_1 a1 1 with _ | q_3
  · refine zgn_8_1 C hs hP ha1 hk1 wf_X2_53 hg_3 dX2_begin_12 ?_
    refine lv_ifnonnullN hx hb dX2_begin_15 ?_
    refine lv_null hx hb dX2_begin_18 ?_
    refine lv_goto (tgt := 29) hx hb dX2_begin_19 (by decide) ?_
    refine kgn_2_8 C hO hs hP hS ha0 hk0 wf_X2_65 hI ht_1 (fun g h => by cases h) dX2_begin_29 (fun vg_4 H locs hI hP hS => ?_)
    refine lv_aload_n hx hb dX2_begin_32 rfl (lv_at hl 0 rfl) ?_
    refine lv_dup hx hb dX2_begin_33 rfl ?_
    refine zg_2_13 C hs hP ha0 hk0 wf_X2_68 dX2_begin_34 ?_
    refine lv_iconst (v := 1) hx hb dX2_begin_37 (by decide) ?_
    refine lv_iadd hx hb dX2_begin_38 ?_
    refine lv_topi (fun x_5 ex_5 => ?_)
    refine kp_2_13 C hO hs hP hS ha0 hk0 wf_X2_68 hI dX2_begin_39 (fun vi_6 H locs hI hP hS => ?_)
    refine lv_aload_n hx hb dX2_begin_42 rfl (lv_at hl 0 rfl) ?_
    refine lv_iconst (v := 0) hx hb dX2_begin_43 (by decide) ?_
    refine kp_2_11 C hO hs hP hS ha0 hk0 wf_X2_71 hI (by rw [ti_0]; decide) dX2_begin_44 (fun vi_7 H locs hI hP hS => ?_)
    refine lv_aload_n hx hb dX2_begin_47 rfl (lv_at hl 0 rfl) ?_
    refine lv_iconst (v := 0) hx hb dX2_begin_48 (by decide) ?_
    refine kp_2_12 C hO hs hP hS ha0 hk0 wf_X2_74 hI dX2_begin_49 (fun vi_8 H locs hI hP hS => ?_)
    refine lv_aload_n hx hb dX2_begin_52 rfl (lv_at hl 0 rfl) ?_
    refine lv_iconst (v := 0) hx hb dX2_begin_53 (by decide) ?_
    refine kp_2_10 C hO hs hP hS ha0 hk0 wf_X2_77 hI dX2_begin_54 (fun vi_9 H locs hI hP hS => ?_)
    refine lv_iconst (v := 0) hx hb dX2_begin_57 (by decide) ?_
    refine lv_istore_n (lv' := [(3, .int 0), (0, .ref a0), (1, .ref a1), (2, .int x2)]) hx hb dX2_begin_58 rfl hl (by decide) rfl (fun ls hl => ?_)
    have L_59_11 : ∀ (n_11 : Nat) (vi_12 : Nat → Nat → Int32) (va_12 : Nat → Nat → Int32) (H : Heap) (locs : List Loc) (y_10 : Int32) (ls : Array Slot), (2147483648 - y_10.toInt).toNat < n_11 → 0 ≤ y_10.toInt → zI K (vi_12, va_12, vg_4) → va_P D vwCl (zW K (vi_12, va_12, vg_4)) H → va_S (zA K) s.heap H locs → lv_has ls 5 [(3, .int y_10), (0, .ref a0), (1, .ref a1), (2, .int x2)] → W p l e (rmd 3) s m args below meth c H locs 0 0 Q (F0 m 59 ls []) := by
      intro n_11
      induction n_11 with
      | zero => intro vi_12 va_12 H locs y_10 ls hm_11; exact absurd hm_11 (Nat.not_lt_zero _)
      | succ n_11 ih_11 =>
        intro vi_12 va_12 H locs y_10 ls hm_11 iv_12_0 hI hP hS hl
        refine lv_iload_n hx hb dX2_begin_59 rfl (lv_at hl 0 rfl) ?_
        refine lv_iconst (v := 4) hx hb dX2_begin_60 (by decide) ?_
        refine bi_ge (tgt := 146) hx hb rfl ti_4 dX2_begin_61 (by decide) (fun c_14 => ?_) (fun c_14 => ?_)
        · skip
          refine lv_iconst (v := 0) hx hb dX2_begin_146 (by decide) ?_
          refine lv_istore_n (lv' := [(3, .int 0), (0, .ref a0), (1, .ref a1), (2, .int x2)]) hx hb dX2_begin_147 rfl hl (by decide) rfl (fun ls hl => ?_)
          have L_148_47 : ∀ (n_47 : Nat) (vi_48 : Nat → Nat → Int32) (H : Heap) (locs : List Loc) (y_46 : Int32) (ls : Array Slot), (2147483648 - y_46.toInt).toNat < n_47 → 0 ≤ y_46.toInt → zI K (vi_48, va_12, vg_4) → va_P D vwCl (zW K (vi_48, va_12, vg_4)) H → va_S (zA K) s.heap H locs → lv_has ls 5 [(3, .int y_46), (0, .ref a0), (1, .ref a1), (2, .int x2)] → W p l e (rmd 3) s m args below meth c H locs 0 0 Q (F0 m 148 ls []) := by
            intro n_47
            induction n_47 with
            | zero => intro vi_48 H locs y_46 ls hm_47; exact absurd hm_47 (Nat.not_lt_zero _)
            | succ n_47 ih_47 =>
              intro vi_48 H locs y_46 ls hm_47 iv_48_0 hI hP hS hl
              refine lv_iload_n hx hb dX2_begin_148 rfl (lv_at hl 0 rfl) ?_
              refine lv_iconst (v := 4) hx hb dX2_begin_149 (by decide) ?_
              refine bi_gt (tgt := 179) hx hb rfl ti_4 dX2_begin_150 (by decide) (fun c_50 => ?_) (fun c_50 => ?_)
              · skip
                exact zaV hQ hx hb hr hlk hP hS hI dX2_begin_179
              · skip
                refine lv_aload_n hx hb dX2_begin_153 rfl (lv_at hl 1 rfl) ?_
                refine zg_2_5 C hs hP ha0 hk0 wf_X2_36 dX2_begin_154 ?_
                have hf_51 := hO.r (j := 5) ha0 hk0 (rfl : zX 2 5 = some (23, 5))
                refine lv_iload_n hx hb dX2_begin_157 rfl (lv_at hl 0 rfl) ?_
                have g_53 := z_rng y_46
                have hin_52 : vp_in y_46 (zn K (zr K a0 5)) := vp_in_iff.mpr (by rw [(hf_51.2.2 (by decide))]; refine ⟨?_, ?_⟩ <;> omega)
                refine zld_23 C hs hP hf_51.1 hf_51.2.1 hin_52 dX2_begin_158 ?_
                have hf_54 := zel_23 hO hf_51.1 hf_51.2.1 hin_52
                refine lv_iconst (v := 0) hx hb dX2_begin_159 (by decide) ?_
                refine kp_7_1 C hO hs hP hS hf_54.1 hf_54.2 wf_X2_88 hI dX2_begin_160 (fun vi_55 H locs hI hP hS => ?_)
                refine lv_aload_n hx hb dX2_begin_163 rfl (lv_at hl 1 rfl) ?_
                refine zg_2_6 C hs hP ha0 hk0 wf_X2_39 dX2_begin_164 ?_
                have hf_56 := hO.r (j := 6) ha0 hk0 (rfl : zX 2 6 = some (23, 5))
                refine lv_iload_n hx hb dX2_begin_167 rfl (lv_at hl 0 rfl) ?_
                have hin_57 : vp_in y_46 (zn K (zr K a0 6)) := vp_in_iff.mpr (by rw [(hf_56.2.2 (by decide))]; refine ⟨?_, ?_⟩ <;> omega)
                refine zld_23 C hs hP hf_56.1 hf_56.2.1 hin_57 dX2_begin_168 ?_
                have hf_58 := zel_23 hO hf_56.1 hf_56.2.1 hin_57
                refine lv_iconst (v := 0) hx hb dX2_begin_169 (by decide) ?_
                refine kp_7_1 C hO hs hP hS hf_58.1 hf_58.2 wf_X2_88 hI dX2_begin_170 (fun vi_59 H locs hI hP hS => ?_)
                obtain ⟨x_60, ex_60⟩ : ∃ y : Int32, y = y_46 + 1 := ⟨_, rfl⟩
                refine lv_iinc (v := x_60) (lv' := [(3, .int x_60), (0, .ref a0), (1, .ref a1), (2, .int x2)]) hx hb dX2_begin_173 hl (k := 0) rfl (by rw [ex_60]; rfl) (by decide) rfl (fun ls hl => ?_)
                refine lv_goto (tgt := 148) hx hb dX2_begin_176 (by decide) ?_
                obtain ⟨f_60, l_60, u_60⟩ := z_add ex_60 rfl ti_1
                exact ih_47 vi_59 _ _ x_60 _ (by omega) (by omega) hI hP hS (lv_sub hl [0, 1, 2, 3] rfl)
          have g_61 := z_rng y_10
          exact L_148_47 _ vi_12 _ _ 0 _ (Nat.lt_succ_self _) (by simp only [ti_0]; omega) hI hP hS (lv_sub hl [0, 1, 2, 3] rfl)
        · skip
          refine lv_aload_n hx hb dX2_begin_64 rfl (lv_at hl 1 rfl) ?_
          refine zg_2_4 C hs hP ha0 hk0 wf_X2_32 dX2_begin_65 ?_
          have hf_62 := hO.r (j := 4) ha0 hk0 (rfl : zX 2 4 = some (23, 4))
          refine lv_iload_n hx hb dX2_begin_68 rfl (lv_at hl 0 rfl) ?_
          have g_64 := z_rng y_10
          have hin_63 : vp_in y_10 (zn K (zr K a0 4)) := vp_in_iff.mpr (by rw [(hf_62.2.2 (by decide))]; refine ⟨?_, ?_⟩ <;> omega)
          refine zld_23 C hs hP hf_62.1 hf_62.2.1 hin_63 dX2_begin_69 ?_
          have hf_65 := zel_23 hO hf_62.1 hf_62.2.1 hin_63
          refine lv_aload_n hx hb dX2_begin_70 rfl (lv_at hl 2 rfl) ?_
          refine lv_iload_n hx hb dX2_begin_71 rfl (lv_at hl 0 rfl) ?_
          refine zcSq (zrV (As := [.int y_10]) (b := a1) (rest := [.ref (zr K (zr K a0 4) y_10.toNatClampNeg)]) C hs hP hS (c_X9_handOf l D K hO vi_12 va_12 vg_4 hI a1 ha1 hk1 y_10) m_X9_handOf wm_X2_80 (zrecv hs hP ha1 (zF_8 hk1) rfl) ⟨by decide, by decide⟩ hl.1 (Nat.le_of_ble_eq_true rfl) dX2_begin_72) (fun p_66 => ?_) (fun q_66 p_66 => ?_)
          · skip
            obtain ⟨q9, h9, -⟩ := p_66; cases h9
          · skip
            obtain ⟨q9, h9, h8, h7⟩ := p_66
            cases h9
            have h8_q_66 := h8; have h7_q_66 := h7; clear h8 h7
            refine zcV (zrV (As := [.ref q_66]) (b := zr K (zr K a0 4) y_10.toNatClampNeg) (rest := []) C hs hP hS (c_X8_setTo l D K hO vi_12 va_12 vg_4 hI (zr K (zr K a0 4) y_10.toNatClampNeg) hf_65.1 hf_65.2 q_66 h8_q_66 h7_q_66) m_X8_setTo wm_X2_84 (zrecv hs hP hf_65.1 (zF_7 hf_65.2) rfl) ⟨by decide, by decide⟩ hl.1 (Nat.le_of_ble_eq_true rfl) dX2_begin_75) hS (fun V_67 H locs p_67 hP hS => ?_)
            obtain ⟨vi_67, va_67, vg_67⟩ := V_67
            obtain ⟨hI, hg_67⟩ := p_67
            try dsimp only at hI hg_67
            replace hg_67 := hg_67.symm
            subst hg_67
            refine lv_aload_n hx hb dX2_begin_78 rfl (lv_at hl 1 rfl) ?_
            refine lv_aload_n hx hb dX2_begin_79 rfl (lv_at hl 1 rfl) ?_
            refine zg_2_10 C hs hP ha0 hk0 wf_X2_77 dX2_begin_80 ?_
            refine lv_aload_n hx hb dX2_begin_83 rfl (lv_at hl 1 rfl) ?_
            refine zg_2_4 C hs hP ha0 hk0 wf_X2_32 dX2_begin_84 ?_
            refine lv_iload_n hx hb dX2_begin_87 rfl (lv_at hl 0 rfl) ?_
            have hin_68 : vp_in y_10 (zn K (zr K a0 4)) := vp_in_iff.mpr (by rw [(hf_62.2.2 (by decide))]; refine ⟨?_, ?_⟩ <;> omega)
            refine zld_23 C hs hP hf_62.1 hf_62.2.1 hin_68 dX2_begin_88 ?_
            refine zg_7_1 C hs hP hf_65.1 hf_65.2 wf_X2_88 dX2_begin_89 ?_
            refine va_mmax hx hb (hml.trans hl.1.symm) hown (hts _ wm_X2_91) (hts _ wt_Lib_Math_max_name) (hts _ wn_J9) (hts _ wo_max) (by decide) (Nat.le_of_ble_eq_true rfl) (Nat.zero_le _) (Nat.zero_le _) dX2_begin_92 ?_
            refine lv_topi (fun x_69 ex_69 => ?_)
            refine kp_2_10 C hO hs hP hS ha0 hk0 wf_X2_77 hI dX2_begin_95 (fun vi_70 H locs hI hP hS => ?_)
            refine lv_iconst (v := 0) hx hb dX2_begin_98 (by decide) ?_
            refine lv_istore (lv' := [(4, .int 0), (3, .int y_10), (0, .ref a0), (1, .ref a1), (2, .int x2)]) hx hb dX2_begin_99 hl (by decide) rfl (fun ls hl => ?_)
            have L_101_72 : ∀ (n_72 : Nat) (vi_73 : Nat → Nat → Int32) (va_73 : Nat → Nat → Int32) (H : Heap) (locs : List Loc) (y_71 : Int32) (ls : Array Slot), (2147483648 - y_71.toInt).toNat < n_72 → 0 ≤ y_71.toInt → zI K (vi_73, va_73, vg_4) → va_P D vwCl (zW K (vi_73, va_73, vg_4)) H → va_S (zA K) s.heap H locs → lv_has ls 5 [(4, .int y_71), (3, .int y_10), (0, .ref a0), (1, .ref a1), (2, .int x2)] → W p l e (rmd 3) s m args below meth c H locs 0 0 Q (F0 m 101 ls []) := by
              intro n_72
              induction n_72 with
              | zero => intro vi_73 va_73 H locs y_71 ls hm_72; exact absurd hm_72 (Nat.not_lt_zero _)
              | succ n_72 ih_72 =>
                intro vi_73 va_73 H locs y_71 ls hm_72 iv_73_0 hI hP hS hl
                refine lv_iload hx hb dX2_begin_101 (lv_at hl 0 rfl) ?_
                refine lv_aload_n hx hb dX2_begin_103 rfl (lv_at hl 2 rfl) ?_
                refine zg_2_4 C hs hP ha0 hk0 wf_X2_32 dX2_begin_104 ?_
                refine lv_iload_n hx hb dX2_begin_107 rfl (lv_at hl 1 rfl) ?_
                have hin_75 : vp_in y_10 (zn K (zr K a0 4)) := vp_in_iff.mpr (by rw [(hf_62.2.2 (by decide))]; refine ⟨?_, ?_⟩ <;> omega)
                refine zld_23 C hs hP hf_62.1 hf_62.2.1 hin_75 dX2_begin_108 ?_
                refine zg_7_1 C hs hP hf_65.1 hf_65.2 wf_X2_88 dX2_begin_109 ?_
                refine bi_ge (tgt := 140) hx hb rfl rfl dX2_begin_112 (by decide) (fun c_76 => ?_) (fun c_76 => ?_)
                · skip
                  obtain ⟨x_83, ex_83⟩ : ∃ y : Int32, y = y_10 + 1 := ⟨_, rfl⟩
                  refine lv_iinc (v := x_83) (lv' := [(3, .int x_83), (4, .int y_71), (0, .ref a0), (1, .ref a1), (2, .int x2)]) hx hb dX2_begin_140 hl (k := 1) rfl (by rw [ex_83]; rfl) (by decide) rfl (fun ls hl => ?_)
                  refine lv_goto (tgt := 59) hx hb dX2_begin_143 (by decide) ?_
                  obtain ⟨f_83, l_83, u_83⟩ := z_add ex_83 rfl ti_1
                  have g_84 := z_rng y_71
                  have g_85 := z_rng (vi_73 (zr K (zr K a0 4) y_10.toNatClampNeg) 1)
                  exact ih_11 vi_73 va_73 _ _ x_83 _ (by omega) (by omega) hI hP hS (lv_sub hl [0, 2, 3, 4] rfl)
                · skip
                  refine lv_aload_n hx hb dX2_begin_115 rfl (lv_at hl 2 rfl) ?_
                  refine lv_aload_n hx hb dX2_begin_116 rfl (lv_at hl 2 rfl) ?_
                  refine zg_2_4 C hs hP ha0 hk0 wf_X2_32 dX2_begin_117 ?_
                  refine lv_iload_n hx hb dX2_begin_120 rfl (lv_at hl 1 rfl) ?_
                  have hin_86 : vp_in y_10 (zn K (zr K a0 4)) := vp_in_iff.mpr (by rw [(hf_62.2.2 (by decide))]; refine ⟨?_, ?_⟩ <;> omega)
                  refine zld_23 C hs hP hf_62.1 hf_62.2.1 hin_86 dX2_begin_121 ?_
                  refine lv_iload hx hb dX2_begin_122 (lv_at hl 0 rfl) ?_
                  refine zcS (zrV (As := [.int y_71]) (b := zr K (zr K a0 4) y_10.toNatClampNeg) (rest := [.ref a0]) C hs hP hS (c_X8_at l D K hO vi_73 va_73 vg_4 hI (zr K (zr K a0 4) y_10.toNatClampNeg) hf_65.1 hf_65.2 y_71) m_X8_at wm_X2_97 (zrecv hs hP hf_65.1 (zF_7 hf_65.2) rfl) ⟨by decide, by decide⟩ hl.1 (Nat.le_of_ble_eq_true rfl) dX2_begin_124) (fun x_87 p_87 => ?_)
                  refine lv_iconst (v := 1) hx hb dX2_begin_127 (by decide) ?_
                  refine lv_iload hx hb dX2_begin_128 (lv_at hl 0 rfl) ?_
                  refine lv_ishl hx hb dX2_begin_130 ?_
                  refine lv_topi (fun x_88 ex_88 => ?_)
                  refine zcV (zrV (As := [.int x_87, .int x_88]) (b := a0) (rest := []) C hs hP hS (c_X2_setBit l D K hO vi_73 va_73 vg_4 hI a0 ha0 hk0 x_87 x_88) m_X2_setBit wm_X2_100 (zrecv hs hP ha0 (zF_2 hk0) rfl) ⟨by decide, by decide⟩ hl.1 (Nat.le_of_ble_eq_true rfl) dX2_begin_131) hS (fun V_89 H locs p_89 hP hS => ?_)
                  obtain ⟨vi_89, va_89, vg_89⟩ := V_89
                  obtain ⟨hI, hg_89⟩ := p_89
                  try dsimp only at hI hg_89
                  replace hg_89 := hg_89.symm
                  subst hg_89
                  obtain ⟨x_90, ex_90⟩ : ∃ y : Int32, y = y_71 + 1 := ⟨_, rfl⟩
                  refine lv_iinc (v := x_90) (lv' := [(4, .int x_90), (3, .int y_10), (0, .ref a0), (1, .ref a1), (2, .int x2)]) hx hb dX2_begin_134 hl (k := 0) rfl (by rw [ex_90]; rfl) (by decide) rfl (fun ls hl => ?_)
                  refine lv_goto (tgt := 101) hx hb dX2_begin_137 (by decide) ?_
                  have g_91 := z_rng y_71
                  obtain ⟨f_90, l_90, u_90⟩ := z_add ex_90 rfl ti_1
                  have g_92 := z_rng (vi_73 (zr K (zr K a0 4) y_10.toNatClampNeg) 1)
                  exact ih_72 vi_89 va_89 _ _ x_90 _ (by omega) (by omega) hI hP hS (lv_sub hl [0, 1, 2, 3, 4] rfl)
            exact L_101_72 _ vi_70 va_67 _ _ 0 _ (Nat.lt_succ_self _) (by simp only [ti_0]; omega) hI hP hS (lv_sub hl [0, 1, 2, 3, 4] rfl)
    exact L_59_11 _ vi_9 va _ _ 0 _ (Nat.lt_succ_self _) (by simp only [ti_0]; omega) hI hP hS (lv_sub hl [0, 1, 2, 3] rfl)
  · have hq_3 := hI.2.2.2.1 _ ha1 hk1 _ hg_3
    refine zgs_8_1 C hs hP ha1 hk1 wf_X2_53 hg_3 dX2_begin_12 ?_
    refine lv_ifnonnull (tgt := 22) hx hb dX2_begin_15 (by decide) ?_
    refine lv_aload_n hx hb dX2_begin_22 rfl (lv_at hl 1 rfl) ?_
    refine zgs_8_1 C hs hP ha1 hk1 wf_X2_53 hg_3 dX2_begin_23 ?_
    have run_93 : va_Run p l e (rmd 3) s m args below meth c H locs 0 0 0 0 (F0 m 26 ls [.ref q_3, .ref a0]) [.ref a0] ((va_Sq (fun r => ∃ q, r = some q ∧ q ∈ zl K ∧ fol K q)) ([.ref q_3] : List Value).toArray) (fun _ => False) := by
      rcases hq_3.2 with (h9 | h9 | h9 | h9) | h9
      · exact zrUA (Cn := RX0) (As := []) (b := q_3) (rest := [.ref a0]) C hs hP hS (c_X3_player l D K hO vi_2 va vg_1 hI q_3 hq_3.1 (Or.inl h9)) m0_X3_player wi_X3_player wm_X2_59 wq_X4_X4_player we_X0_X4_player (List.mem_of_getElem? (l := nw_D) (i := 7) rfl) ⟨by decide, by decide⟩ rfl (zrecv hs hP hq_3.1 (zF_0 h9) rfl) ⟨by decide, by decide⟩ hl.1 (Nat.le_of_ble_eq_true rfl) dX2_begin_26
      · exact zrUA (Cn := RX3) (As := []) (b := q_3) (rest := [.ref a0]) C hs hP hS (c_X3_player l D K hO vi_2 va vg_1 hI q_3 hq_3.1 (Or.inr (Or.inl h9))) m0_X3_player wi_X3_player wm_X2_59 wq_X4_X4_player we_X3_X4_player (List.mem_of_getElem? (l := nw_D) (i := 7) rfl) ⟨by decide, by decide⟩ rfl (zrecv hs hP hq_3.1 (zF_3 h9) rfl) ⟨by decide, by decide⟩ hl.1 (Nat.le_of_ble_eq_true rfl) dX2_begin_26
      · exact zrUA (Cn := RX5) (As := []) (b := q_3) (rest := [.ref a0]) C hs hP hS (c_X3_player l D K hO vi_2 va vg_1 hI q_3 hq_3.1 (Or.inr (Or.inr (Or.inl h9)))) m0_X3_player wi_X3_player wm_X2_59 wq_X4_X4_player we_X5_X4_player (List.mem_of_getElem? (l := nw_D) (i := 7) rfl) ⟨by decide, by decide⟩ rfl (zrecv hs hP hq_3.1 (zF_4 h9) rfl) ⟨by decide, by decide⟩ hl.1 (Nat.le_of_ble_eq_true rfl) dX2_begin_26
      · exact zrUA (Cn := RX10) (As := []) (b := q_3) (rest := [.ref a0]) C hs hP hS (c_X3_player l D K hO vi_2 va vg_1 hI q_3 hq_3.1 (Or.inr (Or.inr (Or.inr h9)))) m0_X3_player wi_X3_player wm_X2_59 wq_X4_X4_player we_X10_X4_player (List.mem_of_getElem? (l := nw_D) (i := 7) rfl) ⟨by decide, by decide⟩ rfl (zrecv hs hP hq_3.1 (zF_9 h9) rfl) ⟨by decide, by decide⟩ hl.1 (Nat.le_of_ble_eq_true rfl) dX2_begin_26
      · exact zrUA (Cn := RX7) (As := []) (b := q_3) (rest := [.ref a0]) C hs hP hS (c_X7_player l D K hO vi_2 va vg_1 hI q_3 hq_3.1 h9) m0_X7_player wi_X7_player wm_X2_59 wq_X4_X4_player we_X7_X4_player (List.mem_of_getElem? (l := nw_D) (i := 7) rfl) ⟨by decide, by decide⟩ rfl (zrecv hs hP hq_3.1 (zF_6 h9) rfl) ⟨by decide, by decide⟩ hl.1 (Nat.le_of_ble_eq_true rfl) dX2_begin_26
    refine zcSq run_93 (fun p_94 => ?_) (fun q_94 p_94 => ?_)
    · skip
      obtain ⟨q9, h9, -⟩ := p_94; cases h9
    · skip
      obtain ⟨q9, h9, h8, h7⟩ := p_94
      cases h9
      have h8_q_94 := h8; have h7_q_94 := h7; clear h8 h7
      refine kgs_2_8 C hO hs hP hS ha0 hk0 wf_X2_65 hI ht_1 (fun g h => by cases h; exact ⟨h8_q_94, h7_q_94⟩) dX2_begin_29 (fun vg_95 H locs hI hP hS => ?_)
      refine lv_aload_n hx hb dX2_begin_32 rfl (lv_at hl 0 rfl) ?_
      refine lv_dup hx hb dX2_begin_33 rfl ?_
      refine zg_2_13 C hs hP ha0 hk0 wf_X2_68 dX2_begin_34 ?_
      refine lv_iconst (v := 1) hx hb dX2_begin_37 (by decide) ?_
      refine lv_iadd hx hb dX2_begin_38 ?_
      refine lv_topi (fun x_96 ex_96 => ?_)
      refine kp_2_13 C hO hs hP hS ha0 hk0 wf_X2_68 hI dX2_begin_39 (fun vi_97 H locs hI hP hS => ?_)
      refine lv_aload_n hx hb dX2_begin_42 rfl (lv_at hl 0 rfl) ?_
      refine lv_iconst (v := 0) hx hb dX2_begin_43 (by decide) ?_
      refine kp_2_11 C hO hs hP hS ha0 hk0 wf_X2_71 hI (by rw [ti_0]; decide) dX2_begin_44 (fun vi_98 H locs hI hP hS => ?_)
      refine lv_aload_n hx hb dX2_begin_47 rfl (lv_at hl 0 rfl) ?_
      refine lv_iconst (v := 0) hx hb dX2_begin_48 (by decide) ?_
      refine kp_2_12 C hO hs hP hS ha0 hk0 wf_X2_74 hI dX2_begin_49 (fun vi_99 H locs hI hP hS => ?_)
      refine lv_aload_n hx hb dX2_begin_52 rfl (lv_at hl 0 rfl) ?_
      refine lv_iconst (v := 0) hx hb dX2_begin_53 (by decide) ?_
      refine kp_2_10 C hO hs hP hS ha0 hk0 wf_X2_77 hI dX2_begin_54 (fun vi_100 H locs hI hP hS => ?_)
      refine lv_iconst (v := 0) hx hb dX2_begin_57 (by decide) ?_
      refine lv_istore_n (lv' := [(3, .int 0), (0, .ref a0), (1, .ref a1), (2, .int x2)]) hx hb dX2_begin_58 rfl hl (by decide) rfl (fun ls hl => ?_)
      have L_59_102 : ∀ (n_102 : Nat) (vi_103 : Nat → Nat → Int32) (va_103 : Nat → Nat → Int32) (H : Heap) (locs : List Loc) (y_101 : Int32) (ls : Array Slot), (2147483648 - y_101.toInt).toNat < n_102 → 0 ≤ y_101.toInt → zI K (vi_103, va_103, vg_95) → va_P D vwCl (zW K (vi_103, va_103, vg_95)) H → va_S (zA K) s.heap H locs → lv_has ls 5 [(3, .int y_101), (0, .ref a0), (1, .ref a1), (2, .int x2)] → W p l e (rmd 3) s m args below meth c H locs 0 0 Q (F0 m 59 ls []) := by
        intro n_102
        induction n_102 with
        | zero => intro vi_103 va_103 H locs y_101 ls hm_102; exact absurd hm_102 (Nat.not_lt_zero _)
        | succ n_102 ih_102 =>
          intro vi_103 va_103 H locs y_101 ls hm_102 iv_103_0 hI hP hS hl
          refine lv_iload_n hx hb dX2_begin_59 rfl (lv_at hl 0 rfl) ?_
          refine lv_iconst (v := 4) hx hb dX2_begin_60 (by decide) ?_
          refine bi_ge (tgt := 146) hx hb rfl ti_4 dX2_begin_61 (by decide) (fun c_105 => ?_) (fun c_105 => ?_)
          · skip
            refine lv_iconst (v := 0) hx hb dX2_begin_146 (by decide) ?_
            refine lv_istore_n (lv' := [(3, .int 0), (0, .ref a0), (1, .ref a1), (2, .int x2)]) hx hb dX2_begin_147 rfl hl (by decide) rfl (fun ls hl => ?_)
            have L_148_138 : ∀ (n_138 : Nat) (vi_139 : Nat → Nat → Int32) (H : Heap) (locs : List Loc) (y_137 : Int32) (ls : Array Slot), (2147483648 - y_137.toInt).toNat < n_138 → 0 ≤ y_137.toInt → zI K (vi_139, va_103, vg_95) → va_P D vwCl (zW K (vi_139, va_103, vg_95)) H → va_S (zA K) s.heap H locs → lv_has ls 5 [(3, .int y_137), (0, .ref a0), (1, .ref a1), (2, .int x2)] → W p l e (rmd 3) s m args below meth c H locs 0 0 Q (F0 m 148 ls []) := by
              intro n_138
              induction n_138 with
              | zero => intro vi_139 H locs y_137 ls hm_138; exact absurd hm_138 (Nat.not_lt_zero _)
              | succ n_138 ih_138 =>
                intro vi_139 H locs y_137 ls hm_138 iv_139_0 hI hP hS hl
                refine lv_iload_n hx hb dX2_begin_148 rfl (lv_at hl 0 rfl) ?_
                refine lv_iconst (v := 4) hx hb dX2_begin_149 (by decide) ?_
                refine bi_gt (tgt := 179) hx hb rfl ti_4 dX2_begin_150 (by decide) (fun c_141 => ?_) (fun c_141 => ?_)
                · skip
                  exact zaV hQ hx hb hr hlk hP hS hI dX2_begin_179
                · skip
                  refine lv_aload_n hx hb dX2_begin_153 rfl (lv_at hl 1 rfl) ?_
                  refine zg_2_5 C hs hP ha0 hk0 wf_X2_36 dX2_begin_154 ?_
                  have hf_142 := hO.r (j := 5) ha0 hk0 (rfl : zX 2 5 = some (23, 5))
                  refine lv_iload_n hx hb dX2_begin_157 rfl (lv_at hl 0 rfl) ?_
                  have g_144 := z_rng y_137
                  have hin_143 : vp_in y_137 (zn K (zr K a0 5)) := vp_in_iff.mpr (by rw [(hf_142.2.2 (by decide))]; refine ⟨?_, ?_⟩ <;> omega)
                  refine zld_23 C hs hP hf_142.1 hf_142.2.1 hin_143 dX2_begin_158 ?_
                  have hf_145 := zel_23 hO hf_142.1 hf_142.2.1 hin_143
                  refine lv_iconst (v := 0) hx hb dX2_begin_159 (by decide) ?_
                  refine kp_7_1 C hO hs hP hS hf_145.1 hf_145.2 wf_X2_88 hI dX2_begin_160 (fun vi_146 H locs hI hP hS => ?_)
                  refine lv_aload_n hx hb dX2_begin_163 rfl (lv_at hl 1 rfl) ?_
                  refine zg_2_6 C hs hP ha0 hk0 wf_X2_39 dX2_begin_164 ?_
                  have hf_147 := hO.r (j := 6) ha0 hk0 (rfl : zX 2 6 = some (23, 5))
                  refine lv_iload_n hx hb dX2_begin_167 rfl (lv_at hl 0 rfl) ?_
                  have hin_148 : vp_in y_137 (zn K (zr K a0 6)) := vp_in_iff.mpr (by rw [(hf_147.2.2 (by decide))]; refine ⟨?_, ?_⟩ <;> omega)
                  refine zld_23 C hs hP hf_147.1 hf_147.2.1 hin_148 dX2_begin_168 ?_
                  have hf_149 := zel_23 hO hf_147.1 hf_147.2.1 hin_148
                  refine lv_iconst (v := 0) hx hb dX2_begin_169 (by decide) ?_
                  refine kp_7_1 C hO hs hP hS hf_149.1 hf_149.2 wf_X2_88 hI dX2_begin_170 (fun vi_150 H locs hI hP hS => ?_)
                  obtain ⟨x_151, ex_151⟩ : ∃ y : Int32, y = y_137 + 1 := ⟨_, rfl⟩
                  refine lv_iinc (v := x_151) (lv' := [(3, .int x_151), (0, .ref a0), (1, .ref a1), (2, .int x2)]) hx hb dX2_begin_173 hl (k := 0) rfl (by rw [ex_151]; rfl) (by decide) rfl (fun ls hl => ?_)
                  refine lv_goto (tgt := 148) hx hb dX2_begin_176 (by decide) ?_
                  obtain ⟨f_151, l_151, u_151⟩ := z_add ex_151 rfl ti_1
                  exact ih_138 vi_150 _ _ x_151 _ (by omega) (by omega) hI hP hS (lv_sub hl [0, 1, 2, 3] rfl)
            have g_152 := z_rng y_101
            exact L_148_138 _ vi_103 _ _ 0 _ (Nat.lt_succ_self _) (by simp only [ti_0]; omega) hI hP hS (lv_sub hl [0, 1, 2, 3] rfl)
          · skip
            refine lv_aload_n hx hb dX2_begin_64 rfl (lv_at hl 1 rfl) ?_
            refine zg_2_4 C hs hP ha0 hk0 wf_X2_32 dX2_begin_65 ?_
            have hf_153 := hO.r (j := 4) ha0 hk0 (rfl : zX 2 4 = some (23, 4))
            refine lv_iload_n hx hb dX2_begin_68 rfl (lv_at hl 0 rfl) ?_
            have g_155 := z_rng y_101
            have hin_154 : vp_in y_101 (zn K (zr K a0 4)) := vp_in_iff.mpr (by rw [(hf_153.2.2 (by decide))]; refine ⟨?_, ?_⟩ <;> omega)
            refine zld_23 C hs hP hf_153.1 hf_153.2.1 hin_154 dX2_begin_69 ?_
            have hf_156 := zel_23 hO hf_153.1 hf_153.2.1 hin_154
            refine lv_aload_n hx hb dX2_begin_70 rfl (lv_at hl 2 rfl) ?_
            refine lv_iload_n hx hb dX2_begin_71 rfl (lv_at hl 0 rfl) ?_
            refine zcSq (zrV (As := [.int y_101]) (b := a1) (rest := [.ref (zr K (zr K a0 4) y_101.toNatClampNeg)]) C hs hP hS (c_X9_handOf l D K hO vi_103 va_103 vg_95 hI a1 ha1 hk1 y_101) m_X9_handOf wm_X2_80 (zrecv hs hP ha1 (zF_8 hk1) rfl) ⟨by decide, by decide⟩ hl.1 (Nat.le_of_ble_eq_true rfl) dX2_begin_72) (fun p_157 => ?_) (fun q_157 p_157 => ?_)
            · skip
              obtain ⟨q9, h9, -⟩ := p_157; cases h9
            · skip
              obtain ⟨q9, h9, h8, h7⟩ := p_157
              cases h9
              have h8_q_157 := h8; have h7_q_157 := h7; clear h8 h7
              refine zcV (zrV (As := [.ref q_157]) (b := zr K (zr K a0 4) y_101.toNatClampNeg) (rest := []) C hs hP hS (c_X8_setTo l D K hO vi_103 va_103 vg_95 hI (zr K (zr K a0 4) y_101.toNatClampNeg) hf_156.1 hf_156.2 q_157 h8_q_157 h7_q_157) m_X8_setTo wm_X2_84 (zrecv hs hP hf_156.1 (zF_7 hf_156.2) rfl) ⟨by decide, by decide⟩ hl.1 (Nat.le_of_ble_eq_true rfl) dX2_begin_75) hS (fun V_158 H locs p_158 hP hS => ?_)
              obtain ⟨vi_158, va_158, vg_158⟩ := V_158
              obtain ⟨hI, hg_158⟩ := p_158
              try dsimp only at hI hg_158
              replace hg_158 := hg_158.symm
              subst hg_158
              refine lv_aload_n hx hb dX2_begin_78 rfl (lv_at hl 1 rfl) ?_
              refine lv_aload_n hx hb dX2_begin_79 rfl (lv_at hl 1 rfl) ?_
              refine zg_2_10 C hs hP ha0 hk0 wf_X2_77 dX2_begin_80 ?_
              refine lv_aload_n hx hb dX2_begin_83 rfl (lv_at hl 1 rfl) ?_
              refine zg_2_4 C hs hP ha0 hk0 wf_X2_32 dX2_begin_84 ?_
              refine lv_iload_n hx hb dX2_begin_87 rfl (lv_at hl 0 rfl) ?_
              have hin_159 : vp_in y_101 (zn K (zr K a0 4)) := vp_in_iff.mpr (by rw [(hf_153.2.2 (by decide))]; refine ⟨?_, ?_⟩ <;> omega)
              refine zld_23 C hs hP hf_153.1 hf_153.2.1 hin_159 dX2_begin_88 ?_
              refine zg_7_1 C hs hP hf_156.1 hf_156.2 wf_X2_88 dX2_begin_89 ?_
              refine va_mmax hx hb (hml.trans hl.1.symm) hown (hts _ wm_X2_91) (hts _ wt_Lib_Math_max_name) (hts _ wn_J9) (hts _ wo_max) (by decide) (Nat.le_of_ble_eq_true rfl) (Nat.zero_le _) (Nat.zero_le _) dX2_begin_92 ?_
              refine lv_topi (fun x_160 ex_160 => ?_)
              refine kp_2_10 C hO hs hP hS ha0 hk0 wf_X2_77 hI dX2_begin_95 (fun vi_161 H locs hI hP hS => ?_)
              refine lv_iconst (v := 0) hx hb dX2_begin_98 (by decide) ?_
              refine lv_istore (lv' := [(4, .int 0), (3, .int y_101), (0, .ref a0), (1, .ref a1), (2, .int x2)]) hx hb dX2_begin_99 hl (by decide) rfl (fun ls hl => ?_)
              have L_101_163 : ∀ (n_163 : Nat) (vi_164 : Nat → Nat → Int32) (va_164 : Nat → Nat → Int32) (H : Heap) (locs : List Loc) (y_162 : Int32) (ls : Array Slot), (2147483648 - y_162.toInt).toNat < n_163 → 0 ≤ y_162.toInt → zI K (vi_164, va_164, vg_95) → va_P D vwCl (zW K (vi_164, va_164, vg_95)) H → va_S (zA K) s.heap H locs → lv_has ls 5 [(4, .int y_162), (3, .int y_101), (0, .ref a0), (1, .ref a1), (2, .int x2)] → W p l e (rmd 3) s m args below meth c H locs 0 0 Q (F0 m 101 ls []) := by
                intro n_163
                induction n_163 with
                | zero => intro vi_164 va_164 H locs y_162 ls hm_163; exact absurd hm_163 (Nat.not_lt_zero _)
                | succ n_163 ih_163 =>
                  intro vi_164 va_164 H locs y_162 ls hm_163 iv_164_0 hI hP hS hl
                  refine lv_iload hx hb dX2_begin_101 (lv_at hl 0 rfl) ?_
                  refine lv_aload_n hx hb dX2_begin_103 rfl (lv_at hl 2 rfl) ?_
                  refine zg_2_4 C hs hP ha0 hk0 wf_X2_32 dX2_begin_104 ?_
                  refine lv_iload_n hx hb dX2_begin_107 rfl (lv_at hl 1 rfl) ?_
                  have hin_166 : vp_in y_101 (zn K (zr K a0 4)) := vp_in_iff.mpr (by rw [(hf_153.2.2 (by decide))]; refine ⟨?_, ?_⟩ <;> omega)
                  refine zld_23 C hs hP hf_153.1 hf_153.2.1 hin_166 dX2_begin_108 ?_
                  refine zg_7_1 C hs hP hf_156.1 hf_156.2 wf_X2_88 dX2_begin_109 ?_
                  refine bi_ge (tgt := 140) hx hb rfl rfl dX2_begin_112 (by decide) (fun c_167 => ?_) (fun c_167 => ?_)
                  · skip
                    obtain ⟨x_174, ex_174⟩ : ∃ y : Int32, y = y_101 + 1 := ⟨_, rfl⟩
                    refine lv_iinc (v := x_174) (lv' := [(3, .int x_174), (4, .int y_162), (0, .ref a0), (1, .ref a1), (2, .int x2)]) hx hb dX2_begin_140 hl (k := 1) rfl (by rw [ex_174]; rfl) (by decide) rfl (fun ls hl => ?_)
                    refine lv_goto (tgt := 59) hx hb dX2_begin_143 (by decide) ?_
                    obtain ⟨f_174, l_174, u_174⟩ := z_add ex_174 rfl ti_1
                    have g_175 := z_rng (vi_164 (zr K (zr K a0 4) y_101.toNatClampNeg) 1)
                    have g_176 := z_rng y_162
                    exact ih_102 vi_164 va_164 _ _ x_174 _ (by omega) (by omega) hI hP hS (lv_sub hl [0, 2, 3, 4] rfl)
                  · skip
                    refine lv_aload_n hx hb dX2_begin_115 rfl (lv_at hl 2 rfl) ?_
                    refine lv_aload_n hx hb dX2_begin_116 rfl (lv_at hl 2 rfl) ?_
                    refine zg_2_4 C hs hP ha0 hk0 wf_X2_32 dX2_begin_117 ?_
                    refine lv_iload_n hx hb dX2_begin_120 rfl (lv_at hl 1 rfl) ?_
                    have hin_177 : vp_in y_101 (zn K (zr K a0 4)) := vp_in_iff.mpr (by rw [(hf_153.2.2 (by decide))]; refine ⟨?_, ?_⟩ <;> omega)
                    refine zld_23 C hs hP hf_153.1 hf_153.2.1 hin_177 dX2_begin_121 ?_
                    refine lv_iload hx hb dX2_begin_122 (lv_at hl 0 rfl) ?_
                    refine zcS (zrV (As := [.int y_162]) (b := zr K (zr K a0 4) y_101.toNatClampNeg) (rest := [.ref a0]) C hs hP hS (c_X8_at l D K hO vi_164 va_164 vg_95 hI (zr K (zr K a0 4) y_101.toNatClampNeg) hf_156.1 hf_156.2 y_162) m_X8_at wm_X2_97 (zrecv hs hP hf_156.1 (zF_7 hf_156.2) rfl) ⟨by decide, by decide⟩ hl.1 (Nat.le_of_ble_eq_true rfl) dX2_begin_124) (fun x_178 p_178 => ?_)
                    refine lv_iconst (v := 1) hx hb dX2_begin_127 (by decide) ?_
                    refine lv_iload hx hb dX2_begin_128 (lv_at hl 0 rfl) ?_
                    refine lv_ishl hx hb dX2_begin_130 ?_
                    refine lv_topi (fun x_179 ex_179 => ?_)
                    refine zcV (zrV (As := [.int x_178, .int x_179]) (b := a0) (rest := []) C hs hP hS (c_X2_setBit l D K hO vi_164 va_164 vg_95 hI a0 ha0 hk0 x_178 x_179) m_X2_setBit wm_X2_100 (zrecv hs hP ha0 (zF_2 hk0) rfl) ⟨by decide, by decide⟩ hl.1 (Nat.le_of_ble_eq_true rfl) dX2_begin_131) hS (fun V_180 H locs p_180 hP hS => ?_)
                    obtain ⟨vi_180, va_180, vg_180⟩ := V_180
                    obtain ⟨hI, hg_180⟩ := p_180
                    try dsimp only at hI hg_180
                    replace hg_180 := hg_180.symm
                    subst hg_180
                    obtain ⟨x_181, ex_181⟩ : ∃ y : Int32, y = y_162 + 1 := ⟨_, rfl⟩
                    refine lv_iinc (v := x_181) (lv' := [(4, .int x_181), (3, .int y_101), (0, .ref a0), (1, .ref a1), (2, .int x2)]) hx hb dX2_begin_134 hl (k := 0) rfl (by rw [ex_181]; rfl) (by decide) rfl (fun ls hl => ?_)
                    refine lv_goto (tgt := 101) hx hb dX2_begin_137 (by decide) ?_
                    have g_182 := z_rng y_162
                    obtain ⟨f_181, l_181, u_181⟩ := z_add ex_181 rfl ti_1
                    have g_183 := z_rng (vi_164 (zr K (zr K a0 4) y_101.toNatClampNeg) 1)
                    exact ih_163 vi_180 va_180 _ _ x_181 _ (by omega) (by omega) hI hP hS (lv_sub hl [0, 1, 2, 3, 4] rfl)
              exact L_101_163 _ vi_161 va_158 _ _ 0 _ (Nat.lt_succ_self _) (by simp only [ti_0]; omega) hI hP hS (lv_sub hl [0, 1, 2, 3, 4] rfl)
      exact L_59_102 _ vi_100 va _ _ 0 _ (Nat.lt_succ_self _) (by simp only [ti_0]; omega) hI hP hS (lv_sub hl [0, 1, 2, 3] rfl)
set_option maxHeartbeats 4000000 in
set_option maxRecDepth 100000 in
theorem c_X2_nextAble (l : Launch) (D : va_G) (K : zK) (hO : zOk K) (vi va : Nat → Nat → Int32) (vg : Nat → Nat → Option Nat) (hI : zI K (vi, va, vg)) (a0 : Nat) (ha0 : a0 ∈ zl K) (hk0 : zk K a0 = 2) (x1 : Int32) : Met l yX2_nextAble (zc yX2_nextAble cX2_nextAble 4 (some .int)) (rmd 1) (va_Pc [.ref a0, .int x1] (zB D K (vi, va, vg))) (vp_Si (fun r => True)) 0 0 (fun _ => False) := by
  refine zin (by decide) (Nat.le_of_ble_eq_true rfl) ?_
  intro p e s m args below meth c ls Q hQ C hr hlk hP hs hl
  have C : CallFix p m c cX2_nextAble 4 s args zw RX2 := C
  obtain ⟨hx, hb, hml, hown, hts⟩ := id C
  have hS : va_S (zA K) s.heap s.heap [] := va_S.rf
  have hl : lv_has ls 4 [(0, .ref a0), (1, .int x1)] := hl
  refine lv_iconst (v := 0) hx hb dX2_nextAble_0 (by decide) ?_
  refine lv_istore_n (lv' := [(2, .int 0), (0, .ref a0), (1, .int x1)]) hx hb dX2_nextAble_1 rfl hl (by decide) rfl (fun ls hl => ?_)
  have L_2_2 : ∀ (n_2 : Nat) (y_1 : Int32) (ls : Array Slot), (2147483648 - y_1.toInt).toNat < n_2 → 0 ≤ y_1.toInt → lv_has ls 4 [(2, .int y_1), (0, .ref a0), (1, .int x1)] → W p l e (rmd 1) s m args below meth c s.heap [] 0 0 Q (F0 m 2 ls []) := by
    intro n_2
    induction n_2 with
    | zero => intro y_1 ls hm_2; exact absurd hm_2 (Nat.not_lt_zero _)
    | succ n_2 ih_2 =>
      intro y_1 ls hm_2 iv_3_0 hl
      refine lv_iload_n hx hb dX2_nextAble_2 rfl (lv_at hl 0 rfl) ?_
      refine lv_iconst (v := 4) hx hb dX2_nextAble_3 (by decide) ?_
      refine bi_ge (tgt := 50) hx hb rfl ti_4 dX2_nextAble_4 (by decide) (fun c_4 => ?_) (fun c_4 => ?_)
      · skip
        refine lv_iconst (v := (-1)) hx hb dX2_nextAble_50 (by decide) ?_
        exact zaS hQ hx hb hr hlk trivial dX2_nextAble_51
      · skip
        refine lv_iload_n hx hb dX2_nextAble_7 rfl (lv_at hl 2 rfl) ?_
        refine lv_iload_n hx hb dX2_nextAble_8 rfl (lv_at hl 0 rfl) ?_
        refine lv_iadd hx hb dX2_nextAble_9 ?_
        refine lv_topi (fun x_5 ex_5 => ?_)
        refine lv_iconst (v := 3) hx hb dX2_nextAble_10 (by decide) ?_
        refine lv_iand hx hb dX2_nextAble_11 ?_
        refine lv_topi (fun x_6 ex_6 => ?_)
        refine lv_istore_n (lv' := [(3, .int x_6), (2, .int y_1), (0, .ref a0), (1, .int x1)]) hx hb dX2_nextAble_12 rfl hl (by decide) rfl (fun ls hl => ?_)
        refine lv_aload_n hx hb dX2_nextAble_13 rfl (lv_at hl 2 rfl) ?_
        refine zg_2_4 C hs hP ha0 hk0 wf_X2_32 dX2_nextAble_14 ?_
        have hf_7 := hO.r (j := 4) ha0 hk0 (rfl : zX 2 4 = some (23, 4))
        refine lv_iload_n hx hb dX2_nextAble_17 rfl (lv_at hl 0 rfl) ?_
        have f_6 := z_and ex_6 ti_3 (by decide)
        have hin_8 : vp_in x_6 (zn K (zr K a0 4)) := vp_in_iff.mpr (by rw [(hf_7.2.2 (by decide))]; refine ⟨?_, ?_⟩ <;> omega)
        refine zld_23 C hs hP hf_7.1 hf_7.2.1 hin_8 dX2_nextAble_18 ?_
        have hf_9 := zel_23 hO hf_7.1 hf_7.2.1 hin_8
        refine zg_7_1 C hs hP hf_9.1 hf_9.2 wf_X2_88 dX2_nextAble_19 ?_
        refine bz_le (tgt := 44) hx hb rfl dX2_nextAble_22 (by decide) (fun c_10 => ?_) (fun c_10 => ?_)
        · skip
          obtain ⟨x_11, ex_11⟩ : ∃ y : Int32, y = y_1 + 1 := ⟨_, rfl⟩
          refine lv_iinc (v := x_11) (lv' := [(2, .int x_11), (3, .int x_6), (0, .ref a0), (1, .int x1)]) hx hb dX2_nextAble_44 hl (k := 1) rfl (by rw [ex_11]; rfl) (by decide) rfl (fun ls hl => ?_)
          refine lv_goto (tgt := 2) hx hb dX2_nextAble_47 (by decide) ?_
          have g_12 := z_rng y_1
          obtain ⟨f_11, l_11, u_11⟩ := z_add ex_11 rfl ti_1
          have g_13 := z_rng (vi (zr K (zr K a0 4) x_6.toNatClampNeg) 1)
          exact ih_2 x_11 _ (by omega) (by omega) (lv_sub hl [0, 2, 3] rfl)
        · skip
          refine lv_aload_n hx hb dX2_nextAble_25 rfl (lv_at hl 2 rfl) ?_
          refine zg_2_6 C hs hP ha0 hk0 wf_X2_39 dX2_nextAble_26 ?_
          have hf_14 := hO.r (j := 6) ha0 hk0 (rfl : zX 2 6 = some (23, 5))
          refine lv_aload_n hx hb dX2_nextAble_29 rfl (lv_at hl 2 rfl) ?_
          refine zg_2_11 C hs hP ha0 hk0 wf_X2_71 dX2_nextAble_30 ?_
          have hv_15 : 0 ≤ (vi a0 11).toInt ∧ (vi a0 11).toInt ≤ 4 := hI.2.1 _ ha0 hk0
          have g_17 := z_rng (vi a0 11)
          have hin_16 : vp_in (vi a0 11) (zn K (zr K a0 6)) := vp_in_iff.mpr (by rw [(hf_14.2.2 (by decide))]; refine ⟨?_, ?_⟩ <;> omega)
          refine zld_23 C hs hP hf_14.1 hf_14.2.1 hin_16 dX2_nextAble_33 ?_
          have hf_18 := zel_23 hO hf_14.1 hf_14.2.1 hin_16
          refine lv_iload_n hx hb dX2_nextAble_34 rfl (lv_at hl 0 rfl) ?_
          refine zcS (zrV (As := [.int x_6]) (b := zr K (zr K a0 6) (vi a0 11).toNatClampNeg) (rest := []) C hs hP hS (c_X8_placeOf l D K hO vi va vg hI (zr K (zr K a0 6) (vi a0 11).toNatClampNeg) hf_18.1 hf_18.2 x_6) m_X8_placeOf wm_X2_164 (zrecv hs hP hf_18.1 (zF_7 hf_18.2) rfl) ⟨by decide, by decide⟩ hl.1 (Nat.le_of_ble_eq_true rfl) dX2_nextAble_35) (fun x_19 p_19 => ?_)
          refine lv_iconst (v := (-1)) hx hb dX2_nextAble_38 (by decide) ?_
          refine bi_ne (tgt := 44) hx hb rfl ti_m1 dX2_nextAble_39 (by decide) (fun c_20 => ?_) (fun c_20 => ?_)
          · skip
            obtain ⟨x_21, ex_21⟩ : ∃ y : Int32, y = y_1 + 1 := ⟨_, rfl⟩
            refine lv_iinc (v := x_21) (lv' := [(2, .int x_21), (3, .int x_6), (0, .ref a0), (1, .int x1)]) hx hb dX2_nextAble_44 hl (k := 1) rfl (by rw [ex_21]; rfl) (by decide) rfl (fun ls hl => ?_)
            refine lv_goto (tgt := 2) hx hb dX2_nextAble_47 (by decide) ?_
            have g_22 := z_rng y_1
            obtain ⟨f_21, l_21, u_21⟩ := z_add ex_21 rfl ti_1
            have g_23 := z_rng (vi (zr K (zr K a0 4) x_6.toNatClampNeg) 1)
            have g_24 := z_rng x_19
            exact ih_2 x_21 _ (by omega) (by omega) (lv_sub hl [0, 2, 3] rfl)
          · skip
            refine lv_iload_n hx hb dX2_nextAble_42 rfl (lv_at hl 0 rfl) ?_
            exact zaS hQ hx hb hr hlk trivial dX2_nextAble_43
  exact L_2_2 _ 0 _ (Nat.lt_succ_self _) (by simp only [ti_0]; omega) (lv_sub hl [0, 1, 2] rfl)
set_option maxHeartbeats 4000000 in
set_option maxRecDepth 100000 in
theorem c_X2_boundsAt (l : Launch) (D : va_G) (K : zK) (hO : zOk K) (vi va : Nat → Nat → Int32) (vg : Nat → Nat → Option Nat) (hI : zI K (vi, va, vg)) (a0 : Nat) (ha0 : a0 ∈ zl K) (hk0 : zk K a0 = 2) (x1 : Int32) : Met l yX2_boundsAt (zc yX2_boundsAt cX2_boundsAt 3 (some .int)) (rmd 0) (va_Pc [.ref a0, .int x1] (zB D K (vi, va, vg))) (vp_Si (fun r => True)) 0 0 (fun _ => False) := by
  refine zin (by decide) (Nat.le_of_ble_eq_true rfl) ?_
  intro p e s m args below meth c ls Q hQ C hr hlk hP hs hl
  have C : CallFix p m c cX2_boundsAt 3 s args zw RX2 := C
  obtain ⟨hx, hb, hml, hown, hts⟩ := id C
  have hS : va_S (zA K) s.heap s.heap [] := va_S.rf
  have hl : lv_has ls 3 [(0, .ref a0), (1, .int x1)] := hl
  refine lv_iload_n hx hb dX2_boundsAt_0 rfl (lv_at hl 1 rfl) ?_
  refine bz_lt (tgt := 31) hx hb rfl dX2_boundsAt_1 (by decide) (fun c_1 => ?_) (fun c_1 => ?_)
  · skip
    refine lv_iconst (v := 0) hx hb dX2_boundsAt_31 (by decide) ?_
    refine lv_istore_n (lv' := [(2, .int 0), (0, .ref a0), (1, .int x1)]) hx hb dX2_boundsAt_32 rfl hl (by decide) rfl (fun ls hl => ?_)
    refine lv_iload_n hx hb dX2_boundsAt_33 rfl (lv_at hl 0 rfl) ?_
    refine bz_eq (tgt := 49) hx hb ti_0 dX2_boundsAt_34 (by decide) (fun c_2 => ?_) (fun c_2 => ?_)
    · clear c_2
      refine lv_aload_n hx hb dX2_boundsAt_49 rfl (lv_at hl 1 rfl) ?_
      refine zg_2_10 C hs hP ha0 hk0 wf_X2_77 dX2_boundsAt_50 ?_
      refine lv_aload_n hx hb dX2_boundsAt_53 rfl (lv_at hl 1 rfl) ?_
      refine zg_2_11 C hs hP ha0 hk0 wf_X2_71 dX2_boundsAt_54 ?_
      have hv_3 : 0 ≤ (vi a0 11).toInt ∧ (vi a0 11).toInt ≤ 4 := hI.2.1 _ ha0 hk0
      refine lv_isub hx hb dX2_boundsAt_57 ?_
      refine lv_topi (fun x_4 ex_4 => ?_)
      refine lv_iconst (v := 1) hx hb dX2_boundsAt_58 (by decide) ?_
      refine lv_iadd hx hb dX2_boundsAt_59 ?_
      refine lv_topi (fun x_5 ex_5 => ?_)
      exact zaS hQ hx hb hr hlk trivial dX2_boundsAt_60
    · exact absurd c_2 (by decide)
  · skip
    refine lv_iload_n hx hb dX2_boundsAt_4 rfl (lv_at hl 1 rfl) ?_
    refine lv_sipush (v := 20736) hx hb dX2_boundsAt_5 (by decide) ?_
    refine bi_ge (tgt := 31) hx hb rfl ti_20736 dX2_boundsAt_8 (by decide) (fun c_6 => ?_) (fun c_6 => ?_)
    · skip
      refine lv_iconst (v := 0) hx hb dX2_boundsAt_31 (by decide) ?_
      refine lv_istore_n (lv' := [(2, .int 0), (0, .ref a0), (1, .int x1)]) hx hb dX2_boundsAt_32 rfl hl (by decide) rfl (fun ls hl => ?_)
      refine lv_iload_n hx hb dX2_boundsAt_33 rfl (lv_at hl 0 rfl) ?_
      refine bz_eq (tgt := 49) hx hb ti_0 dX2_boundsAt_34 (by decide) (fun c_7 => ?_) (fun c_7 => ?_)
      · clear c_7
        refine lv_aload_n hx hb dX2_boundsAt_49 rfl (lv_at hl 1 rfl) ?_
        refine zg_2_10 C hs hP ha0 hk0 wf_X2_77 dX2_boundsAt_50 ?_
        refine lv_aload_n hx hb dX2_boundsAt_53 rfl (lv_at hl 1 rfl) ?_
        refine zg_2_11 C hs hP ha0 hk0 wf_X2_71 dX2_boundsAt_54 ?_
        have hv_8 : 0 ≤ (vi a0 11).toInt ∧ (vi a0 11).toInt ≤ 4 := hI.2.1 _ ha0 hk0
        refine lv_isub hx hb dX2_boundsAt_57 ?_
        refine lv_topi (fun x_9 ex_9 => ?_)
        refine lv_iconst (v := 1) hx hb dX2_boundsAt_58 (by decide) ?_
        refine lv_iadd hx hb dX2_boundsAt_59 ?_
        refine lv_topi (fun x_10 ex_10 => ?_)
        exact zaS hQ hx hb hr hlk trivial dX2_boundsAt_60
      · exact absurd c_7 (by decide)
    · skip
      refine lv_aload_n hx hb dX2_boundsAt_11 rfl (lv_at hl 0 rfl) ?_
      refine zg_2_1 C hs hP ha0 hk0 wf_X2_20 dX2_boundsAt_12 ?_
      have hf_11 := hO.r (j := 1) ha0 hk0 (rfl : zX 2 1 = some (20, 20736))
      refine lv_iload_n hx hb dX2_boundsAt_15 rfl (lv_at hl 1 rfl) ?_
      have g_13 := z_rng x1
      have hin_12 : vp_in x1 (zn K (zr K a0 1)) := vp_in_iff.mpr (by rw [(hf_11.2.2 (by decide))]; refine ⟨?_, ?_⟩ <;> omega)
      refine zld_20 C hs hP hf_11.1 hf_11.2.1 hin_12 dX2_boundsAt_16 ?_
      refine lv_bipush (v := 6) hx hb dX2_boundsAt_17 (by decide) ?_
      refine lv_ishr hx hb dX2_boundsAt_19 ?_
      refine lv_topi (fun x_14 ex_14 => ?_)
      refine lv_aload_n hx hb dX2_boundsAt_20 rfl (lv_at hl 0 rfl) ?_
      refine zg_2_13 C hs hP ha0 hk0 wf_X2_68 dX2_boundsAt_21 ?_
      refine bi_ne (tgt := 31) hx hb rfl rfl dX2_boundsAt_24 (by decide) (fun c_15 => ?_) (fun c_15 => ?_)
      · skip
        refine lv_iconst (v := 0) hx hb dX2_boundsAt_31 (by decide) ?_
        refine lv_istore_n (lv' := [(2, .int 0), (0, .ref a0), (1, .int x1)]) hx hb dX2_boundsAt_32 rfl hl (by decide) rfl (fun ls hl => ?_)
        refine lv_iload_n hx hb dX2_boundsAt_33 rfl (lv_at hl 0 rfl) ?_
        refine bz_eq (tgt := 49) hx hb ti_0 dX2_boundsAt_34 (by decide) (fun c_16 => ?_) (fun c_16 => ?_)
        · clear c_16
          refine lv_aload_n hx hb dX2_boundsAt_49 rfl (lv_at hl 1 rfl) ?_
          refine zg_2_10 C hs hP ha0 hk0 wf_X2_77 dX2_boundsAt_50 ?_
          refine lv_aload_n hx hb dX2_boundsAt_53 rfl (lv_at hl 1 rfl) ?_
          refine zg_2_11 C hs hP ha0 hk0 wf_X2_71 dX2_boundsAt_54 ?_
          have hv_17 : 0 ≤ (vi a0 11).toInt ∧ (vi a0 11).toInt ≤ 4 := hI.2.1 _ ha0 hk0
          refine lv_isub hx hb dX2_boundsAt_57 ?_
          refine lv_topi (fun x_18 ex_18 => ?_)
          refine lv_iconst (v := 1) hx hb dX2_boundsAt_58 (by decide) ?_
          refine lv_iadd hx hb dX2_boundsAt_59 ?_
          refine lv_topi (fun x_19 ex_19 => ?_)
          exact zaS hQ hx hb hr hlk trivial dX2_boundsAt_60
        · exact absurd c_16 (by decide)
      · skip
        refine lv_iconst (v := 1) hx hb dX2_boundsAt_27 (by decide) ?_
        refine lv_goto (tgt := 32) hx hb dX2_boundsAt_28 (by decide) ?_
        refine lv_istore_n (lv' := [(2, .int 1), (0, .ref a0), (1, .int x1)]) hx hb dX2_boundsAt_32 rfl hl (by decide) rfl (fun ls hl => ?_)
        refine lv_iload_n hx hb dX2_boundsAt_33 rfl (lv_at hl 0 rfl) ?_
        refine bz_eq (tgt := 49) hx hb ti_1 dX2_boundsAt_34 (by decide) (fun c_20 => ?_) (fun c_20 => ?_)
        · exact absurd c_20 (by decide)
        · clear c_20
          refine lv_aload_n hx hb dX2_boundsAt_37 rfl (lv_at hl 1 rfl) ?_
          refine zg_2_1 C hs hP ha0 hk0 wf_X2_20 dX2_boundsAt_38 ?_
          refine lv_iload_n hx hb dX2_boundsAt_41 rfl (lv_at hl 2 rfl) ?_
          have hin_21 : vp_in x1 (zn K (zr K a0 1)) := vp_in_iff.mpr (by rw [(hf_11.2.2 (by decide))]; refine ⟨?_, ?_⟩ <;> omega)
          refine zld_20 C hs hP hf_11.1 hf_11.2.1 hin_21 dX2_boundsAt_42 ?_
          refine lv_bipush (v := 63) hx hb dX2_boundsAt_43 (by decide) ?_
          refine lv_iand hx hb dX2_boundsAt_45 ?_
          refine lv_topi (fun x_22 ex_22 => ?_)
          refine lv_goto (tgt := 60) hx hb dX2_boundsAt_46 (by decide) ?_
          exact zaS hQ hx hb hr hlk trivial dX2_boundsAt_60
set_option maxHeartbeats 4000000 in
set_option maxRecDepth 100000 in
theorem c_X2_keyOf (l : Launch) (D : va_G) (K : zK) (hO : zOk K) (vi va : Nat → Nat → Int32) (vg : Nat → Nat → Option Nat) (hI : zI K (vi, va, vg)) (a0 : Nat) (ha0 : a0 ∈ zl K) (hk0 : zk K a0 = 2) (x1 : Int32) : Met l yX2_keyOf (zc yX2_keyOf cX2_keyOf 8 (some .int)) (rmd 1) (va_Pc [.ref a0, .int x1] (zB D K (vi, va, vg))) (vp_Si (fun r => r.toInt = -1 ∨ 0 ≤ r.toInt ∧ r.toInt < 20736)) 0 0 (fun _ => False) := by
  refine zin (by decide) (Nat.le_of_ble_eq_true rfl) ?_
  intro p e s m args below meth c ls Q hQ C hr hlk hP hs hl
  have C : CallFix p m c cX2_keyOf 8 s args zw RX2 := C
  obtain ⟨hx, hb, hml, hown, hts⟩ := id C
  have hS : va_S (zA K) s.heap s.heap [] := va_S.rf
  have hl : lv_has ls 8 [(0, .ref a0), (1, .int x1)] := hl
  refine lv_aload_n hx hb dX2_keyOf_0 rfl (lv_at hl 0 rfl) ?_
  refine zg_2_11 C hs hP ha0 hk0 wf_X2_71 dX2_keyOf_1 ?_
  have hv_1 : 0 ≤ (vi a0 11).toInt ∧ (vi a0 11).toInt ≤ 4 := hI.2.1 _ ha0 hk0
  refine lv_iconst (v := 4) hx hb dX2_keyOf_4 (by decide) ?_
  refine bi_ge (tgt := 23) hx hb rfl ti_4 dX2_keyOf_5 (by decide) (fun c_2 => ?_) (fun c_2 => ?_)
  · skip
    refine lv_iconst (v := (-1)) hx hb dX2_keyOf_23 (by decide) ?_
    exact zaS hQ hx hb hr hlk (by (try simp only [ti_m1]); first | omega | (intro h9; omega) | (simp; done) | (refine ⟨?_, ?_⟩ <;> intro h9 <;> omega)) dX2_keyOf_24
  · skip
    refine lv_aload_n hx hb dX2_keyOf_8 rfl (lv_at hl 0 rfl) ?_
    refine zg_2_5 C hs hP ha0 hk0 wf_X2_36 dX2_keyOf_9 ?_
    have hf_3 := hO.r (j := 5) ha0 hk0 (rfl : zX 2 5 = some (23, 5))
    refine lv_aload_n hx hb dX2_keyOf_12 rfl (lv_at hl 0 rfl) ?_
    refine zg_2_11 C hs hP ha0 hk0 wf_X2_71 dX2_keyOf_13 ?_
    have g_5 := z_rng (vi a0 11)
    have hin_4 : vp_in (vi a0 11) (zn K (zr K a0 5)) := vp_in_iff.mpr (by rw [(hf_3.2.2 (by decide))]; refine ⟨?_, ?_⟩ <;> omega)
    refine zld_23 C hs hP hf_3.1 hf_3.2.1 hin_4 dX2_keyOf_16 ?_
    have hf_6 := zel_23 hO hf_3.1 hf_3.2.1 hin_4
    refine zg_7_1 C hs hP hf_6.1 hf_6.2 wf_X2_88 dX2_keyOf_17 ?_
    refine bz_eq (tgt := 25) hx hb rfl dX2_keyOf_20 (by decide) (fun c_7 => ?_) (fun c_7 => ?_)
    · skip
      refine lv_aload_n hx hb dX2_keyOf_25 rfl (lv_at hl 0 rfl) ?_
      refine zg_2_11 C hs hP ha0 hk0 wf_X2_71 dX2_keyOf_26 ?_
      refine lv_iconst (v := 4) hx hb dX2_keyOf_29 (by decide) ?_
      refine lv_imul hx hb dX2_keyOf_30 ?_
      refine lv_topi (fun x_8 ex_8 => ?_)
      refine lv_iload_n hx hb dX2_keyOf_31 rfl (lv_at hl 1 rfl) ?_
      refine lv_iadd hx hb dX2_keyOf_32 ?_
      refine lv_topi (fun x_9 ex_9 => ?_)
      refine lv_istore_n (lv' := [(2, .int x_9), (0, .ref a0), (1, .int x1)]) hx hb dX2_keyOf_33 rfl hl (by decide) rfl (fun ls hl => ?_)
      refine lv_iconst (v := 0) hx hb dX2_keyOf_34 (by decide) ?_
      refine lv_istore_n (lv' := [(3, .int 0), (2, .int x_9), (0, .ref a0), (1, .int x1)]) hx hb dX2_keyOf_35 rfl hl (by decide) rfl (fun ls hl => ?_)
      have L_36_12 : ∀ (n_12 : Nat) (y_10 : Int32) (y_11 : Int32) (ls : Array Slot), (2147483648 - y_10.toInt).toNat < n_12 → 0 ≤ y_10.toInt → lv_has ls 8 [(3, .int y_10), (2, .int y_11), (0, .ref a0), (1, .int x1)] → W p l e (rmd 1) s m args below meth c s.heap [] 0 0 Q (F0 m 36 ls []) := by
        intro n_12
        induction n_12 with
        | zero => intro y_10 y_11 ls hm_12; exact absurd hm_12 (Nat.not_lt_zero _)
        | succ n_12 ih_12 =>
          intro y_10 y_11 ls hm_12 iv_13_0 hl
          refine lv_iload_n hx hb dX2_keyOf_36 rfl (lv_at hl 0 rfl) ?_
          refine lv_iconst (v := 4) hx hb dX2_keyOf_37 (by decide) ?_
          refine bi_ge (tgt := 129) hx hb rfl ti_4 dX2_keyOf_38 (by decide) (fun c_14 => ?_) (fun c_14 => ?_)
          · skip
            refine lv_iload_n hx hb dX2_keyOf_129 rfl (lv_at hl 1 rfl) ?_
            refine bz_lt (tgt := 144) hx hb rfl dX2_keyOf_130 (by decide) (fun c_66 => ?_) (fun c_66 => ?_)
            · skip
              refine lv_iconst (v := (-1)) hx hb dX2_keyOf_144 (by decide) ?_
              exact zaS hQ hx hb hr hlk (by (try simp only [ti_m1]); first | omega | (intro h9; omega) | (simp; done) | (refine ⟨?_, ?_⟩ <;> intro h9 <;> omega)) dX2_keyOf_145
            · skip
              refine lv_iload_n hx hb dX2_keyOf_133 rfl (lv_at hl 1 rfl) ?_
              refine lv_sipush (v := 20736) hx hb dX2_keyOf_134 (by decide) ?_
              refine bi_ge (tgt := 144) hx hb rfl ti_20736 dX2_keyOf_137 (by decide) (fun c_67 => ?_) (fun c_67 => ?_)
              · skip
                refine lv_iconst (v := (-1)) hx hb dX2_keyOf_144 (by decide) ?_
                exact zaS hQ hx hb hr hlk (by (try simp only [ti_m1]); first | omega | (intro h9; omega) | (simp; done) | (refine ⟨?_, ?_⟩ <;> intro h9 <;> omega)) dX2_keyOf_145
              · skip
                refine lv_iload_n hx hb dX2_keyOf_140 rfl (lv_at hl 1 rfl) ?_
                refine lv_goto (tgt := 145) hx hb dX2_keyOf_141 (by decide) ?_
                have g_68 := z_rng y_11
                exact zaS hQ hx hb hr hlk (by first | omega | (intro h9; omega) | (refine ⟨?_, ?_⟩ <;> intro h9 <;> omega)) dX2_keyOf_145
          · skip
            refine lv_aload_n hx hb dX2_keyOf_41 rfl (lv_at hl 2 rfl) ?_
            refine zg_2_4 C hs hP ha0 hk0 wf_X2_32 dX2_keyOf_42 ?_
            have hf_69 := hO.r (j := 4) ha0 hk0 (rfl : zX 2 4 = some (23, 4))
            refine lv_iload_n hx hb dX2_keyOf_45 rfl (lv_at hl 0 rfl) ?_
            have g_71 := z_rng y_10
            have hin_70 : vp_in y_10 (zn K (zr K a0 4)) := vp_in_iff.mpr (by rw [(hf_69.2.2 (by decide))]; refine ⟨?_, ?_⟩ <;> omega)
            refine zld_23 C hs hP hf_69.1 hf_69.2.1 hin_70 dX2_keyOf_46 ?_
            have hf_72 := zel_23 hO hf_69.1 hf_69.2.1 hin_70
            refine lv_astore (lv' := [(4, .ref (zr K (zr K a0 4) y_10.toNatClampNeg)), (3, .int y_10), (2, .int y_11), (0, .ref a0), (1, .int x1)]) hx hb dX2_keyOf_47 hl (by decide) rfl (fun ls hl => ?_)
            refine lv_iconst (v := 0) hx hb dX2_keyOf_49 (by decide) ?_
            refine lv_istore (lv' := [(5, .int 0), (4, .ref (zr K (zr K a0 4) y_10.toNatClampNeg)), (3, .int y_10), (2, .int y_11), (0, .ref a0), (1, .int x1)]) hx hb dX2_keyOf_50 hl (by decide) rfl (fun ls hl => ?_)
            refine lv_iconst (v := 0) hx hb dX2_keyOf_52 (by decide) ?_
            refine lv_istore (lv' := [(6, .int 0), (5, .int 0), (4, .ref (zr K (zr K a0 4) y_10.toNatClampNeg)), (3, .int y_10), (2, .int y_11), (0, .ref a0), (1, .int x1)]) hx hb dX2_keyOf_53 hl (by decide) rfl (fun ls hl => ?_)
            have L_55_75 : ∀ (n_75 : Nat) (y_73 : Int32) (y_74 : Int32) (ls : Array Slot), (2147483648 - y_73.toInt).toNat < n_75 → 0 ≤ y_73.toInt → lv_has ls 8 [(6, .int y_73), (5, .int y_74), (4, .ref (zr K (zr K a0 4) y_10.toNatClampNeg)), (3, .int y_10), (2, .int y_11), (0, .ref a0), (1, .int x1)] → W p l e (rmd 1) s m args below meth c s.heap [] 0 0 Q (F0 m 55 ls []) := by
              intro n_75
              induction n_75 with
              | zero => intro y_73 y_74 ls hm_75; exact absurd hm_75 (Nat.not_lt_zero _)
              | succ n_75 ih_75 =>
                intro y_73 y_74 ls hm_75 iv_76_0 hl
                refine lv_iload hx hb dX2_keyOf_55 (lv_at hl 0 rfl) ?_
                refine lv_aload hx hb dX2_keyOf_57 (lv_at hl 2 rfl) ?_
                refine zg_7_1 C hs hP hf_72.1 hf_72.2 wf_X2_88 dX2_keyOf_59 ?_
                refine bi_ge (tgt := 108) hx hb rfl rfl dX2_keyOf_62 (by decide) (fun c_77 => ?_) (fun c_77 => ?_)
                · skip
                  refine lv_iload_n hx hb dX2_keyOf_108 rfl (lv_at hl 4 rfl) ?_
                  refine lv_bipush (v := 6) hx hb dX2_keyOf_109 (by decide) ?_
                  refine lv_imul hx hb dX2_keyOf_111 ?_
                  refine lv_topi (fun x_94 ex_94 => ?_)
                  obtain ⟨tR, hZR, hTR⟩ := hs.2.2.1
                  refine va_gets hx hb hZR hS hown (hts _ wf_X2_161) (fun _ h9 => h9) dX2_keyOf_112 ?_
                  refine lv_iload hx hb dX2_keyOf_115 (lv_at hl 1 rfl) ?_
                  refine lv_bipush (v := 15) hx hb dX2_keyOf_117 (by decide) ?_
                  refine lv_iand hx hb dX2_keyOf_119 ?_
                  refine lv_topi (fun x_95 ex_95 => ?_)
                  have f_95 := z_and ex_95 ti_15 (by decide)
                  have hin_96 : vp_in x_95 16 := vp_in_iff.mpr (by refine ⟨?_, ?_⟩ <;> omega)
                  refine va_ti hx hb hTR hS hin_96 rfl dX2_keyOf_120 ?_
                  refine lv_iadd hx hb dX2_keyOf_121 ?_
                  refine lv_topi (fun x_97 ex_97 => ?_)
                  refine lv_istore_n (lv' := [(2, .int x_97), (6, .int y_73), (5, .int y_74), (4, .ref (zr K (zr K a0 4) y_10.toNatClampNeg)), (3, .int y_10), (0, .ref a0), (1, .int x1)]) hx hb dX2_keyOf_122 rfl hl (by decide) rfl (fun ls hl => ?_)
                  obtain ⟨x_98, ex_98⟩ : ∃ y : Int32, y = y_10 + 1 := ⟨_, rfl⟩
                  refine lv_iinc (v := x_98) (lv' := [(3, .int x_98), (2, .int x_97), (6, .int y_73), (5, .int y_74), (4, .ref (zr K (zr K a0 4) y_10.toNatClampNeg)), (0, .ref a0), (1, .int x1)]) hx hb dX2_keyOf_123 hl (k := 4) rfl (by rw [ex_98]; rfl) (by decide) rfl (fun ls hl => ?_)
                  refine lv_goto (tgt := 36) hx hb dX2_keyOf_126 (by decide) ?_
                  obtain ⟨f_98, l_98, u_98⟩ := z_add ex_98 rfl ti_1
                  have g_99 := z_rng y_11
                  obtain ⟨f_94, l_94, u_94⟩ := z_mul ex_94 rfl ti_6
                  have g_100 := z_rng (zRf x_95.toNatClampNeg)
                  obtain ⟨f_97, l_97, u_97⟩ := z_add ex_97 rfl rfl
                  have g_101 := z_rng (vi (zr K (zr K a0 4) y_10.toNatClampNeg) 1)
                  have g_102 := z_rng y_73
                  exact ih_12 x_98 x_97 _ (by omega) (by omega) (lv_sub hl [0, 1, 5, 6] rfl)
                · skip
                  refine lv_aload hx hb dX2_keyOf_65 (lv_at hl 2 rfl) ?_
                  refine lv_iload hx hb dX2_keyOf_67 (lv_at hl 0 rfl) ?_
                  refine zcS (zrV (As := [.int y_73]) (b := zr K (zr K a0 4) y_10.toNatClampNeg) (rest := []) C hs hP hS (c_X8_at l D K hO vi va vg hI (zr K (zr K a0 4) y_10.toNatClampNeg) hf_72.1 hf_72.2 y_73) m_X8_at wm_X2_97 (zrecv hs hP hf_72.1 (zF_7 hf_72.2) rfl) ⟨by decide, by decide⟩ hl.1 (Nat.le_of_ble_eq_true rfl) dX2_keyOf_69) (fun x_103 p_103 => ?_)
                  refine lv_istore (lv' := [(7, .int x_103), (6, .int y_73), (5, .int y_74), (4, .ref (zr K (zr K a0 4) y_10.toNatClampNeg)), (3, .int y_10), (2, .int y_11), (0, .ref a0), (1, .int x1)]) hx hb dX2_keyOf_72 hl (by decide) rfl (fun ls hl => ?_)
                  refine lv_iload hx hb dX2_keyOf_74 (lv_at hl 2 rfl) ?_
                  refine lv_iload hx hb dX2_keyOf_76 (lv_at hl 0 rfl) ?_
                  have J_99_110 : ∀ (y_109 : Int32) (ls : Array Slot), lv_has ls 8 [(0, .ref a0), (1, .int x1), (2, .int y_11), (3, .int y_10), (4, .ref (zr K (zr K a0 4) y_10.toNatClampNeg)), (5, .int y_74), (6, .int y_73), (7, .int x_103)] → W p l e (rmd 1) s m args below meth c s.heap [] 0 0 Q (F0 m 99 ls [.int y_109, .int y_74]) := by
                    intro y_109 ls hl
                    refine lv_ior hx hb dX2_keyOf_99 ?_
                    refine lv_topi (fun x_112 ex_112 => ?_)
                    refine lv_istore (lv' := [(5, .int x_112), (0, .ref a0), (1, .int x1), (2, .int y_11), (3, .int y_10), (4, .ref (zr K (zr K a0 4) y_10.toNatClampNeg)), (6, .int y_73), (7, .int x_103)]) hx hb dX2_keyOf_100 hl (by decide) rfl (fun ls hl => ?_)
                    obtain ⟨x_113, ex_113⟩ : ∃ y : Int32, y = y_73 + 1 := ⟨_, rfl⟩
                    refine lv_iinc (v := x_113) (lv' := [(6, .int x_113), (5, .int x_112), (0, .ref a0), (1, .int x1), (2, .int y_11), (3, .int y_10), (4, .ref (zr K (zr K a0 4) y_10.toNatClampNeg)), (7, .int x_103)]) hx hb dX2_keyOf_102 hl (k := 6) rfl (by rw [ex_113]; rfl) (by decide) rfl (fun ls hl => ?_)
                    refine lv_goto (tgt := 55) hx hb dX2_keyOf_105 (by decide) ?_
                    have g_114 := z_rng y_73
                    obtain ⟨f_113, l_113, u_113⟩ := z_add ex_113 rfl ti_1
                    have g_115 := z_rng (vi (zr K (zr K a0 4) y_10.toNatClampNeg) 1)
                    exact ih_75 x_113 x_112 _ (by omega) (by omega) (lv_sub hl [0, 1, 6, 5, 4, 2, 3] rfl)
                  refine bz_lt (tgt := 98) hx hb rfl dX2_keyOf_78 (by decide) (fun c_104 => ?_) (fun c_104 => ?_)
                  · skip
                    refine lv_iconst (v := 0) hx hb dX2_keyOf_98 (by decide) ?_
                    exact J_99_110 0 _ (lv_sub hl [6, 7, 5, 4, 3, 2, 1, 0] rfl)
                  · skip
                    refine lv_iload hx hb dX2_keyOf_81 (lv_at hl 0 rfl) ?_
                    refine lv_bipush (v := 60) hx hb dX2_keyOf_83 (by decide) ?_
                    refine bi_ge (tgt := 98) hx hb rfl ti_60 dX2_keyOf_85 (by decide) (fun c_116 => ?_) (fun c_116 => ?_)
                    · skip
                      refine lv_iconst (v := 0) hx hb dX2_keyOf_98 (by decide) ?_
                      exact J_99_110 0 _ (lv_sub hl [6, 7, 5, 4, 3, 2, 1, 0] rfl)
                    · skip
                      refine lv_aload_n hx hb dX2_keyOf_88 rfl (lv_at hl 6 rfl) ?_
                      refine zg_2_3 C hs hP ha0 hk0 wf_X2_27 dX2_keyOf_89 ?_
                      have hf_117 := hO.r (j := 3) ha0 hk0 (rfl : zX 2 3 = some (20, 60))
                      refine lv_iload hx hb dX2_keyOf_92 (lv_at hl 0 rfl) ?_
                      have g_119 := z_rng x_103
                      have hin_118 : vp_in x_103 (zn K (zr K a0 3)) := vp_in_iff.mpr (by rw [(hf_117.2.2 (by decide))]; refine ⟨?_, ?_⟩ <;> omega)
                      refine zld_20 C hs hP hf_117.1 hf_117.2.1 hin_118 dX2_keyOf_94 ?_
                      refine lv_goto (tgt := 99) hx hb dX2_keyOf_95 (by decide) ?_
                      exact J_99_110 (va (zr K a0 3) x_103.toNatClampNeg) _ (lv_sub hl [6, 7, 5, 4, 3, 2, 1, 0] rfl)
            exact L_55_75 _ 0 0 _ (Nat.lt_succ_self _) (by simp only [ti_0, ti_0]; omega) (lv_sub hl [0, 1, 2, 3, 4, 5, 6] rfl)
      obtain ⟨f_8, l_8, u_8⟩ := z_mul ex_8 rfl ti_4
      have g_120 := z_rng x1
      obtain ⟨f_9, l_9, u_9⟩ := z_add ex_9 rfl rfl
      have g_121 := z_rng (vi (zr K (zr K a0 5) (vi a0 11).toNatClampNeg) 1)
      exact L_36_12 _ 0 x_9 _ (Nat.lt_succ_self _) (by simp only [ti_0]; omega) (lv_sub hl [0, 1, 2, 3] rfl)
    · skip
      refine lv_iconst (v := (-1)) hx hb dX2_keyOf_23 (by decide) ?_
      exact zaS hQ hx hb hr hlk (by (try simp only [ti_m1]); first | omega | (intro h9; omega) | (simp; done) | (refine ⟨?_, ?_⟩ <;> intro h9 <;> omega)) dX2_keyOf_24
set_option maxHeartbeats 4000000 in
set_option maxRecDepth 100000 in
theorem c_X2_lets (l : Launch) (D : va_G) (K : zK) (hO : zOk K) (vi va : Nat → Nat → Int32) (vg : Nat → Nat → Option Nat) (hI : zI K (vi, va, vg)) (a0 : Nat) (ha0 : a0 ∈ zl K) (hk0 : zk K a0 = 2) (x1 : Int32) (x2 : Int32) : Met l yX2_lets (zc yX2_lets cX2_lets 4 (some .boolean)) (rmd 3) (va_Pc [.ref a0, .int x1, .int x2] (zB D K (vi, va, vg))) (zQi D K (fun r V' => zI K V' ∧ V'.2.2 = vg ∧ (r = 0 ∨ r = 1))) 0 0 (zA K) := by
  refine zin (by decide) (Nat.le_of_ble_eq_true rfl) ?_
  intro p e s m args below meth c ls Q hQ C hr hlk hP hs hl
  have C : CallFix p m c cX2_lets 4 s args zw RX2 := C
  obtain ⟨hx, hb, hml, hown, hts⟩ := id C
  have hS : va_S (zA K) s.heap s.heap [] := va_S.rf
  have hl : lv_has ls 4 [(0, .ref a0), (1, .int x1), (2, .int x2)] := hl
  refine lv_aload_n hx hb dX2_lets_0 rfl (lv_at hl 0 rfl) ?_
  refine zg_2_4 C hs hP ha0 hk0 wf_X2_32 dX2_lets_1 ?_
  have hf_1 := hO.r (j := 4) ha0 hk0 (rfl : zX 2 4 = some (23, 4))
  refine lv_iload_n hx hb dX2_lets_4 rfl (lv_at hl 1 rfl) ?_
  refine lv_iconst (v := 3) hx hb dX2_lets_5 (by decide) ?_
  refine lv_iand hx hb dX2_lets_6 ?_
  refine lv_topi (fun x_2 ex_2 => ?_)
  have f_2 := z_and ex_2 ti_3 (by decide)
  have hin_3 : vp_in x_2 (zn K (zr K a0 4)) := vp_in_iff.mpr (by rw [(hf_1.2.2 (by decide))]; refine ⟨?_, ?_⟩ <;> omega)
  refine zld_23 C hs hP hf_1.1 hf_1.2.1 hin_3 dX2_lets_7 ?_
  have hf_4 := zel_23 hO hf_1.1 hf_1.2.1 hin_3
  refine lv_astore_n (lv' := [(3, .ref (zr K (zr K a0 4) x_2.toNatClampNeg)), (0, .ref a0), (1, .int x1), (2, .int x2)]) hx hb dX2_lets_8 rfl hl (by decide) rfl (fun ls hl => ?_)
  refine lv_aload_n hx hb dX2_lets_9 rfl (lv_at hl 1 rfl) ?_
  rcases hg_5 : vg a0 8 with _ | q_5
  · refine zgn_2_8 C hs hP ha0 hk0 wf_X2_65 hg_5 dX2_lets_10 ?_
    refine lv_ifnullN (tgt := 53) hx hb dX2_lets_13 (by decide) ?_
    refine lv_iconst (v := 0) hx hb dX2_lets_53 (by decide) ?_
    exact zaZ hQ hx hb hr hlk hP hS (Or.inl rfl) ⟨hI, rfl, (Or.inl rfl)⟩ dX2_lets_54
  · have hq_5 := hI.2.2.2.2.2 _ ha0 hk0 _ hg_5
    refine zgs_2_8 C hs hP ha0 hk0 wf_X2_65 hg_5 dX2_lets_10 ?_
    refine lv_ifnull hx hb dX2_lets_13 ?_
    refine lv_aload_n hx hb dX2_lets_16 rfl (lv_at hl 1 rfl) ?_
    refine zgs_2_8 C hs hP ha0 hk0 wf_X2_65 hg_5 dX2_lets_17 ?_
    refine lv_aload_n hx hb dX2_lets_20 rfl (lv_at hl 1 rfl) ?_
    refine zg_2_0 C hs hP ha0 hk0 wf_X2_14 dX2_lets_21 ?_
    have hf_6 := hO.r (j := 0) ha0 hk0 (rfl : zX 2 0 = some (5, 0))
    refine lv_aload_n hx hb dX2_lets_24 rfl (lv_at hl 1 rfl) ?_
    obtain ⟨q_7, hg_7⟩ := hq_5.2.2
    have hg_7 : vg a0 7 = some q_7 := hg_7
    have hq_7 := hI.2.2.2.2.1 _ ha0 hk0 _ hg_7
    refine zgs_2_7 C hs hP ha0 hk0 wf_X2_45 hg_7 dX2_lets_25 ?_
    refine lv_aload_n hx hb dX2_lets_28 rfl (lv_at hl 0 rfl) ?_
    refine lv_aload_n hx hb dX2_lets_29 rfl (lv_at hl 1 rfl) ?_
    refine zg_2_5 C hs hP ha0 hk0 wf_X2_36 dX2_lets_30 ?_
    have hf_8 := hO.r (j := 5) ha0 hk0 (rfl : zX 2 5 = some (23, 5))
    refine lv_aload_n hx hb dX2_lets_33 rfl (lv_at hl 1 rfl) ?_
    refine zg_2_11 C hs hP ha0 hk0 wf_X2_71 dX2_lets_34 ?_
    have hv_9 : 0 ≤ (vi a0 11).toInt ∧ (vi a0 11).toInt ≤ 4 := hI.2.1 _ ha0 hk0
    have g_11 := z_rng (vi a0 11)
    have hin_10 : vp_in (vi a0 11) (zn K (zr K a0 5)) := vp_in_iff.mpr (by rw [(hf_8.2.2 (by decide))]; refine ⟨?_, ?_⟩ <;> omega)
    refine zld_23 C hs hP hf_8.1 hf_8.2.1 hin_10 dX2_lets_37 ?_
    have hf_12 := zel_23 hO hf_8.1 hf_8.2.1 hin_10
    refine lv_aload_n hx hb dX2_lets_38 rfl (lv_at hl 0 rfl) ?_
    refine lv_iload_n hx hb dX2_lets_39 rfl (lv_at hl 3 rfl) ?_
    refine zcS (zrV (As := [.int x2]) (b := zr K (zr K a0 4) x_2.toNatClampNeg) (rest := [.ref (zr K (zr K a0 5) (vi a0 11).toNatClampNeg), .ref (zr K (zr K a0 4) x_2.toNatClampNeg), .ref q_7, .ref (zr K a0 0), .ref q_5]) C hs hP hS (c_X8_at l D K hO vi va vg hI (zr K (zr K a0 4) x_2.toNatClampNeg) hf_4.1 hf_4.2 x2) m_X8_at wm_X2_97 (zrecv hs hP hf_4.1 (zF_7 hf_4.2) rfl) ⟨by decide, by decide⟩ hl.1 (Nat.le_of_ble_eq_true rfl) dX2_lets_40) (fun x_13 p_13 => ?_)
    have run_14 : va_Run p l e (rmd 3) s m args below meth c s.heap [] 0 0 0 0 (F0 m 43 ls [.int x_13, .ref (zr K (zr K a0 5) (vi a0 11).toNatClampNeg), .ref (zr K (zr K a0 4) x_2.toNatClampNeg), .ref q_7, .ref (zr K a0 0), .ref q_5]) [] ((zQi D K (fun r V' => zI K V' ∧ V'.2.2 = vg)) ([.ref q_5, .ref (zr K a0 0), .ref q_7, .ref (zr K (zr K a0 4) x_2.toNatClampNeg), .ref (zr K (zr K a0 5) (vi a0 11).toNatClampNeg), .int x_13] : List Value).toArray) (zA K) := by
      rcases hq_5.2.1 with h9 | h9 | h9 | h9
      · exact zrUO (Cn := RX0) (As := [.ref (zr K a0 0), .ref q_7, .ref (zr K (zr K a0 4) x_2.toNatClampNeg), .ref (zr K (zr K a0 5) (vi a0 11).toNatClampNeg), .int x_13]) (b := q_5) (rest := []) C hs hP hS (c_X5_allows l D K hO vi va vg hI q_5 hq_5.1 (Or.inl h9) (zr K a0 0) hf_6.1 hf_6.2.1 q_7 hq_7.1 hq_7.2 (zr K (zr K a0 4) x_2.toNatClampNeg) hf_4.1 hf_4.2 (zr K (zr K a0 5) (vi a0 11).toNatClampNeg) hf_12.1 hf_12.2 x_13) m0_X5_allows wi_X5_allows wm_X2_155 wq_X3_X3_allows we_X0_X3_allows wo_X3_allows wi_X3_allows ⟨by decide, by decide⟩ rfl (zrecv hs hP hq_5.1 (zF_0 h9) rfl) ⟨by decide, by decide⟩ hl.1 (Nat.le_of_ble_eq_true rfl) dX2_lets_43
      · exact zrV (As := [.ref (zr K a0 0), .ref q_7, .ref (zr K (zr K a0 4) x_2.toNatClampNeg), .ref (zr K (zr K a0 5) (vi a0 11).toNatClampNeg), .int x_13]) (b := q_5) (rest := []) C hs hP hS (c_X3_allows l D K hO vi va vg hI q_5 hq_5.1 (Or.inr (Or.inl h9)) (zr K a0 0) hf_6.1 hf_6.2.1 q_7 hq_7.1 hq_7.2 (zr K (zr K a0 4) x_2.toNatClampNeg) hf_4.1 hf_4.2 (zr K (zr K a0 5) (vi a0 11).toNatClampNeg) hf_12.1 hf_12.2 x_13) m_X3_allows wm_X2_155 (zrecv hs hP hq_5.1 (zF_3 h9) rfl) ⟨by decide, by decide⟩ hl.1 (Nat.le_of_ble_eq_true rfl) dX2_lets_43
      · exact zrUO (Cn := RX5) (As := [.ref (zr K a0 0), .ref q_7, .ref (zr K (zr K a0 4) x_2.toNatClampNeg), .ref (zr K (zr K a0 5) (vi a0 11).toNatClampNeg), .int x_13]) (b := q_5) (rest := []) C hs hP hS (c_X5_allows l D K hO vi va vg hI q_5 hq_5.1 (Or.inr (Or.inr (Or.inl h9))) (zr K a0 0) hf_6.1 hf_6.2.1 q_7 hq_7.1 hq_7.2 (zr K (zr K a0 4) x_2.toNatClampNeg) hf_4.1 hf_4.2 (zr K (zr K a0 5) (vi a0 11).toNatClampNeg) hf_12.1 hf_12.2 x_13) m0_X5_allows wi_X5_allows wm_X2_155 wq_X3_X3_allows we_X5_X3_allows wo_X3_allows wi_X3_allows ⟨by decide, by decide⟩ rfl (zrecv hs hP hq_5.1 (zF_4 h9) rfl) ⟨by decide, by decide⟩ hl.1 (Nat.le_of_ble_eq_true rfl) dX2_lets_43
      · exact zrUO (Cn := RX10) (As := [.ref (zr K a0 0), .ref q_7, .ref (zr K (zr K a0 4) x_2.toNatClampNeg), .ref (zr K (zr K a0 5) (vi a0 11).toNatClampNeg), .int x_13]) (b := q_5) (rest := []) C hs hP hS (c_X10_allows l D K hO vi va vg hI q_5 hq_5.1 h9 (zr K a0 0) hf_6.1 hf_6.2.1 q_7 hq_7.1 hq_7.2 (zr K (zr K a0 4) x_2.toNatClampNeg) hf_4.1 hf_4.2 (zr K (zr K a0 5) (vi a0 11).toNatClampNeg) hf_12.1 hf_12.2 x_13) m0_X10_allows wi_X10_allows wm_X2_155 wq_X3_X3_allows we_X10_X3_allows wo_X3_allows wi_X3_allows ⟨by decide, by decide⟩ rfl (zrecv hs hP hq_5.1 (zF_9 h9) rfl) ⟨by decide, by decide⟩ hl.1 (Nat.le_of_ble_eq_true rfl) dX2_lets_43
    refine zcI run_14 hS (fun x_15 V_15 H locs p_15 hP hS => ?_)
    obtain ⟨vi_15, va_15, vg_15⟩ := V_15
    obtain ⟨hI, hg_15⟩ := p_15
    try dsimp only at hI hg_15
    replace hg_15 := hg_15.symm
    subst hg_15
    refine bz_ne (tgt := 53) hx hb rfl dX2_lets_46 (by decide) (fun c_16 => ?_) (fun c_16 => ?_)
    · skip
      refine lv_iconst (v := 0) hx hb dX2_lets_53 (by decide) ?_
      exact zaZ hQ hx hb hr hlk hP hS (Or.inl rfl) ⟨hI, rfl, (Or.inl rfl)⟩ dX2_lets_54
    · skip
      refine lv_iconst (v := 1) hx hb dX2_lets_49 (by decide) ?_
      refine lv_goto (tgt := 54) hx hb dX2_lets_50 (by decide) ?_
      exact zaZ hQ hx hb hr hlk hP hS (Or.inr rfl) ⟨hI, rfl, (Or.inr rfl)⟩ dX2_lets_54
set_option maxHeartbeats 4000000 in
set_option maxRecDepth 100000 in
theorem c_X2_forward (l : Launch) (D : va_G) (K : zK) (hO : zOk K) (vi va : Nat → Nat → Int32) (vg : Nat → Nat → Option Nat) (hI : zI K (vi, va, vg)) (a0 : Nat) (ha0 : a0 ∈ zl K) (hk0 : zk K a0 = 2) (x1 : Int32) (x2 : Int32) : Met l yX2_forward (zc yX2_forward cX2_forward 7 (some .int)) (rmd 3) (va_Pc [.ref a0, .int x1, .int x2] (zB D K (vi, va, vg))) (zQi D K (fun r V' => zI K V' ∧ V'.2.2 = vg)) 0 0 (zA K) := by
  refine zin (by decide) (Nat.le_of_ble_eq_true rfl) ?_
  intro p e s m args below meth c ls Q hQ C hr hlk hP hs hl
  have C : CallFix p m c cX2_forward 7 s args zw RX2 := C
  obtain ⟨hx, hb, hml, hown, hts⟩ := id C
  have hS : va_S (zA K) s.heap s.heap [] := va_S.rf
  have hl : lv_has ls 7 [(0, .ref a0), (1, .int x1), (2, .int x2)] := hl
  refine lv_aload_n hx hb dX2_forward_0 rfl (lv_at hl 0 rfl) ?_
  refine zg_2_5 C hs hP ha0 hk0 wf_X2_36 dX2_forward_1 ?_
  have hf_1 := hO.r (j := 5) ha0 hk0 (rfl : zX 2 5 = some (23, 5))
  refine lv_aload_n hx hb dX2_forward_4 rfl (lv_at hl 0 rfl) ?_
  refine zg_2_11 C hs hP ha0 hk0 wf_X2_71 dX2_forward_5 ?_
  have hv_2 : 0 ≤ (vi a0 11).toInt ∧ (vi a0 11).toInt ≤ 4 := hI.2.1 _ ha0 hk0
  have g_4 := z_rng (vi a0 11)
  have hin_3 : vp_in (vi a0 11) (zn K (zr K a0 5)) := vp_in_iff.mpr (by rw [(hf_1.2.2 (by decide))]; refine ⟨?_, ?_⟩ <;> omega)
  refine zld_23 C hs hP hf_1.1 hf_1.2.1 hin_3 dX2_forward_8 ?_
  have hf_5 := zel_23 hO hf_1.1 hf_1.2.1 hin_3
  refine lv_astore_n (lv' := [(3, .ref (zr K (zr K a0 5) (vi a0 11).toNatClampNeg)), (0, .ref a0), (1, .int x1), (2, .int x2)]) hx hb dX2_forward_9 rfl hl (by decide) rfl (fun ls hl => ?_)
  refine lv_aload_n hx hb dX2_forward_10 rfl (lv_at hl 1 rfl) ?_
  refine zg_2_6 C hs hP ha0 hk0 wf_X2_39 dX2_forward_11 ?_
  have hf_6 := hO.r (j := 6) ha0 hk0 (rfl : zX 2 6 = some (23, 5))
  refine lv_aload_n hx hb dX2_forward_14 rfl (lv_at hl 1 rfl) ?_
  refine zg_2_11 C hs hP ha0 hk0 wf_X2_71 dX2_forward_15 ?_
  have hin_7 : vp_in (vi a0 11) (zn K (zr K a0 6)) := vp_in_iff.mpr (by rw [(hf_6.2.2 (by decide))]; refine ⟨?_, ?_⟩ <;> omega)
  refine zld_23 C hs hP hf_6.1 hf_6.2.1 hin_7 dX2_forward_18 ?_
  have hf_8 := zel_23 hO hf_6.1 hf_6.2.1 hin_7
  refine lv_astore (lv' := [(4, .ref (zr K (zr K a0 6) (vi a0 11).toNatClampNeg)), (3, .ref (zr K (zr K a0 5) (vi a0 11).toNatClampNeg)), (0, .ref a0), (1, .int x1), (2, .int x2)]) hx hb dX2_forward_19 hl (by decide) rfl (fun ls hl => ?_)
  refine lv_aload_n hx hb dX2_forward_21 rfl (lv_at hl 1 rfl) ?_
  refine lv_aload_n hx hb dX2_forward_22 rfl (lv_at hl 2 rfl) ?_
  refine zg_2_4 C hs hP ha0 hk0 wf_X2_32 dX2_forward_23 ?_
  have hf_9 := hO.r (j := 4) ha0 hk0 (rfl : zX 2 4 = some (23, 4))
  refine lv_iload_n hx hb dX2_forward_26 rfl (lv_at hl 3 rfl) ?_
  refine lv_iconst (v := 3) hx hb dX2_forward_27 (by decide) ?_
  refine lv_iand hx hb dX2_forward_28 ?_
  refine lv_topi (fun x_10 ex_10 => ?_)
  have f_10 := z_and ex_10 ti_3 (by decide)
  have hin_11 : vp_in x_10 (zn K (zr K a0 4)) := vp_in_iff.mpr (by rw [(hf_9.2.2 (by decide))]; refine ⟨?_, ?_⟩ <;> omega)
  refine zld_23 C hs hP hf_9.1 hf_9.2.1 hin_11 dX2_forward_29 ?_
  have hf_12 := zel_23 hO hf_9.1 hf_9.2.1 hin_11
  refine lv_iload_n hx hb dX2_forward_30 rfl (lv_at hl 4 rfl) ?_
  refine zcI (zrV (As := [.int x2]) (b := zr K (zr K a0 4) x_10.toNatClampNeg) (rest := [.ref (zr K (zr K a0 5) (vi a0 11).toNatClampNeg)]) C hs hP hS (c_X8_takeAt l D K hO vi va vg hI (zr K (zr K a0 4) x_10.toNatClampNeg) hf_12.1 hf_12.2 x2) m_X8_takeAt wm_X2_167 (zrecv hs hP hf_12.1 (zF_7 hf_12.2) rfl) ⟨by decide, by decide⟩ hl.1 (Nat.le_of_ble_eq_true rfl) dX2_forward_31) hS (fun x_13 V_13 H locs p_13 hP hS => ?_)
  obtain ⟨vi_13, va_13, vg_13⟩ := V_13
  obtain ⟨hI, hg_13⟩ := p_13
  try dsimp only at hI hg_13
  replace hg_13 := hg_13.symm
  subst hg_13
  refine zcV (zrV (As := [.int x_13]) (b := zr K (zr K a0 5) (vi a0 11).toNatClampNeg) (rest := []) C hs hP hS (c_X8_add l D K hO vi_13 va_13 vg hI (zr K (zr K a0 5) (vi a0 11).toNatClampNeg) hf_5.1 hf_5.2 x_13) m_X8_add wm_X2_170 (zrecv hs hP hf_5.1 (zF_7 hf_5.2) rfl) ⟨by decide, by decide⟩ hl.1 (Nat.le_of_ble_eq_true rfl) dX2_forward_34) hS (fun V_14 H locs p_14 hP hS => ?_)
  obtain ⟨vi_14, va_14, vg_14⟩ := V_14
  obtain ⟨hI, hg_14⟩ := p_14
  try dsimp only at hI hg_14
  replace hg_14 := hg_14.symm
  subst hg_14
  refine lv_aload hx hb dX2_forward_37 (lv_at hl 0 rfl) ?_
  refine lv_iload_n hx hb dX2_forward_39 rfl (lv_at hl 3 rfl) ?_
  refine zcV (zrV (As := [.int x1]) (b := zr K (zr K a0 6) (vi a0 11).toNatClampNeg) (rest := []) C hs hP hS (c_X8_add l D K hO vi_14 va_14 vg hI (zr K (zr K a0 6) (vi a0 11).toNatClampNeg) hf_8.1 hf_8.2 x1) m_X8_add wm_X2_170 (zrecv hs hP hf_8.1 (zF_7 hf_8.2) rfl) ⟨by decide, by decide⟩ hl.1 (Nat.le_of_ble_eq_true rfl) dX2_forward_40) hS (fun V_15 H locs p_15 hP hS => ?_)
  obtain ⟨vi_15, va_15, vg_15⟩ := V_15
  obtain ⟨hI, hg_15⟩ := p_15
  try dsimp only at hI hg_15
  replace hg_15 := hg_15.symm
  subst hg_15
  refine lv_aload_n hx hb dX2_forward_43 rfl (lv_at hl 2 rfl) ?_
  refine lv_iload_n hx hb dX2_forward_44 rfl (lv_at hl 3 rfl) ?_
  refine lv_iconst (v := 1) hx hb dX2_forward_45 (by decide) ?_
  refine lv_iadd hx hb dX2_forward_46 ?_
  refine lv_topi (fun x_16 ex_16 => ?_)
  refine zcS (zrV (As := [.int x_16]) (b := a0) (rest := []) C hs hP hS (c_X2_nextAble l D K hO vi_15 va_15 vg hI a0 ha0 hk0 x_16) m_X2_nextAble wm_X2_173 (zrecv hs hP ha0 (zF_2 hk0) rfl) ⟨by decide, by decide⟩ hl.1 (Nat.le_of_ble_eq_true rfl) dX2_forward_47) (fun x_17 p_17 => ?_)
  refine lv_istore (lv' := [(5, .int x_17), (4, .ref (zr K (zr K a0 6) (vi a0 11).toNatClampNeg)), (3, .ref (zr K (zr K a0 5) (vi a0 11).toNatClampNeg)), (0, .ref a0), (1, .int x1), (2, .int x2)]) hx hb dX2_forward_50 hl (by decide) rfl (fun ls hl => ?_)
  refine lv_iload hx hb dX2_forward_52 (lv_at hl 0 rfl) ?_
  refine lv_iconst (v := (-1)) hx hb dX2_forward_54 (by decide) ?_
  refine bi_ne (tgt := 65) hx hb rfl ti_m1 dX2_forward_55 (by decide) (fun c_18 => ?_) (fun c_18 => ?_)
  · skip
    refine lv_iload hx hb dX2_forward_65 (lv_at hl 0 rfl) ?_
    exact zaI hQ hx hb hr hlk hP hS ⟨hI, rfl⟩ dX2_forward_67
  · skip
    refine lv_aload_n hx hb dX2_forward_58 rfl (lv_at hl 3 rfl) ?_
    rcases hg_19 : vg a0 8 with _ | q_19
    · refine zgn_2_8 C hs hP ha0 hk0 wf_X2_65 hg_19 dX2_forward_59 ?_
      refine lv_ifnonnullN hx hb dX2_forward_62 ?_
      refine lv_iload hx hb dX2_forward_65 (lv_at hl 0 rfl) ?_
      exact zaI hQ hx hb hr hlk hP hS ⟨hI, rfl⟩ dX2_forward_67
    · have hq_19 := hI.2.2.2.2.2 _ ha0 hk0 _ hg_19
      refine zgs_2_8 C hs hP ha0 hk0 wf_X2_65 hg_19 dX2_forward_59 ?_
      refine lv_ifnonnull (tgt := 68) hx hb dX2_forward_62 (by decide) ?_
      refine lv_aload hx hb dX2_forward_68 (lv_at hl 1 rfl) ?_
      refine lv_aload_n hx hb dX2_forward_70 rfl (lv_at hl 3 rfl) ?_
      refine zgs_2_8 C hs hP ha0 hk0 wf_X2_65 hg_19 dX2_forward_71 ?_
      refine lv_aload_n hx hb dX2_forward_74 rfl (lv_at hl 3 rfl) ?_
      refine zg_2_0 C hs hP ha0 hk0 wf_X2_14 dX2_forward_75 ?_
      have hf_20 := hO.r (j := 0) ha0 hk0 (rfl : zX 2 0 = some (5, 0))
      refine lv_aload_n hx hb dX2_forward_78 rfl (lv_at hl 3 rfl) ?_
      obtain ⟨q_21, hg_21⟩ := hq_19.2.2
      have hg_21 : vg a0 7 = some q_21 := hg_21
      have hq_21 := hI.2.2.2.2.1 _ ha0 hk0 _ hg_21
      refine zgs_2_7 C hs hP ha0 hk0 wf_X2_45 hg_21 dX2_forward_79 ?_
      refine lv_aload_n hx hb dX2_forward_82 rfl (lv_at hl 2 rfl) ?_
      have run_22 : va_Run p l e (rmd 3) s m args below meth c H locs 0 0 0 0 (F0 m 83 ls [.ref (zr K (zr K a0 5) (vi a0 11).toNatClampNeg), .ref q_21, .ref (zr K a0 0), .ref q_19, .ref (zr K (zr K a0 6) (vi a0 11).toNatClampNeg)]) [.ref (zr K (zr K a0 6) (vi a0 11).toNatClampNeg)] ((zQi D K (fun r V' => zI K V' ∧ V'.2.2 = vg)) ([.ref q_19, .ref (zr K a0 0), .ref q_21, .ref (zr K (zr K a0 5) (vi a0 11).toNatClampNeg)] : List Value).toArray) (zA K) := by
        rcases hq_19.2.1 with h9 | h9 | h9 | h9
        · exact zrUO (Cn := RX0) (As := [.ref (zr K a0 0), .ref q_21, .ref (zr K (zr K a0 5) (vi a0 11).toNatClampNeg)]) (b := q_19) (rest := [.ref (zr K (zr K a0 6) (vi a0 11).toNatClampNeg)]) C hs hP hS (c_X0_wins l D K hO vi_15 va_15 vg hI q_19 hq_19.1 h9 (zr K a0 0) hf_20.1 hf_20.2.1 q_21 hq_21.1 hq_21.2 (zr K (zr K a0 5) (vi a0 11).toNatClampNeg) hf_5.1 hf_5.2) m0_X0_wins wi_X0_wins wm_X2_176 wq_X3_X3_wins we_X0_X3_wins wo_X3_wins wi_X3_wins ⟨by decide, by decide⟩ rfl (zrecv hs hP hq_19.1 (zF_0 h9) rfl) ⟨by decide, by decide⟩ hl.1 (Nat.le_of_ble_eq_true rfl) dX2_forward_83
        · exact zrV (As := [.ref (zr K a0 0), .ref q_21, .ref (zr K (zr K a0 5) (vi a0 11).toNatClampNeg)]) (b := q_19) (rest := [.ref (zr K (zr K a0 6) (vi a0 11).toNatClampNeg)]) C hs hP hS (c_X3_wins l D K hO vi_15 va_15 vg hI q_19 hq_19.1 (Or.inr (Or.inl h9)) (zr K a0 0) hf_20.1 hf_20.2.1 q_21 hq_21.1 hq_21.2 (zr K (zr K a0 5) (vi a0 11).toNatClampNeg) hf_5.1 hf_5.2) m_X3_wins wm_X2_176 (zrecv hs hP hq_19.1 (zF_3 h9) rfl) ⟨by decide, by decide⟩ hl.1 (Nat.le_of_ble_eq_true rfl) dX2_forward_83
        · exact zrUO (Cn := RX5) (As := [.ref (zr K a0 0), .ref q_21, .ref (zr K (zr K a0 5) (vi a0 11).toNatClampNeg)]) (b := q_19) (rest := [.ref (zr K (zr K a0 6) (vi a0 11).toNatClampNeg)]) C hs hP hS (c_X3_wins l D K hO vi_15 va_15 vg hI q_19 hq_19.1 (Or.inr (Or.inr (Or.inl h9))) (zr K a0 0) hf_20.1 hf_20.2.1 q_21 hq_21.1 hq_21.2 (zr K (zr K a0 5) (vi a0 11).toNatClampNeg) hf_5.1 hf_5.2) m0_X3_wins wi_X3_wins wm_X2_176 wq_X3_X3_wins we_X5_X3_wins wo_X3_wins wi_X3_wins ⟨by decide, by decide⟩ rfl (zrecv hs hP hq_19.1 (zF_4 h9) rfl) ⟨by decide, by decide⟩ hl.1 (Nat.le_of_ble_eq_true rfl) dX2_forward_83
        · exact zrUO (Cn := RX10) (As := [.ref (zr K a0 0), .ref q_21, .ref (zr K (zr K a0 5) (vi a0 11).toNatClampNeg)]) (b := q_19) (rest := [.ref (zr K (zr K a0 6) (vi a0 11).toNatClampNeg)]) C hs hP hS (c_X10_wins l D K hO vi_15 va_15 vg hI q_19 hq_19.1 h9 (zr K a0 0) hf_20.1 hf_20.2.1 q_21 hq_21.1 hq_21.2 (zr K (zr K a0 5) (vi a0 11).toNatClampNeg) hf_5.1 hf_5.2) m0_X10_wins wi_X10_wins wm_X2_176 wq_X3_X3_wins we_X10_X3_wins wo_X3_wins wi_X3_wins ⟨by decide, by decide⟩ rfl (zrecv hs hP hq_19.1 (zF_9 h9) rfl) ⟨by decide, by decide⟩ hl.1 (Nat.le_of_ble_eq_true rfl) dX2_forward_83
      refine zcI run_22 hS (fun x_23 V_23 H locs p_23 hP hS => ?_)
      obtain ⟨vi_23, va_23, vg_23⟩ := V_23
      obtain ⟨hI, hg_23⟩ := p_23
      try dsimp only at hI hg_23
      replace hg_23 := hg_23.symm
      subst hg_23
      refine zcS (zrV (As := [.int x_23]) (b := zr K (zr K a0 6) (vi a0 11).toNatClampNeg) (rest := []) C hs hP hS (c_X8_at l D K hO vi_23 va_23 vg hI (zr K (zr K a0 6) (vi a0 11).toNatClampNeg) hf_8.1 hf_8.2 x_23) m_X8_at wm_X2_97 (zrecv hs hP hf_8.1 (zF_7 hf_8.2) rfl) ⟨by decide, by decide⟩ hl.1 (Nat.le_of_ble_eq_true rfl) dX2_forward_86) (fun x_24 p_24 => ?_)
      refine lv_istore (lv' := [(6, .int x_24), (5, .int x_17), (4, .ref (zr K (zr K a0 6) (vi a0 11).toNatClampNeg)), (3, .ref (zr K (zr K a0 5) (vi a0 11).toNatClampNeg)), (0, .ref a0), (1, .int x1), (2, .int x2)]) hx hb dX2_forward_89 hl (by decide) rfl (fun ls hl => ?_)
      refine lv_aload_n hx hb dX2_forward_91 rfl (lv_at hl 4 rfl) ?_
      refine lv_dup hx hb dX2_forward_92 rfl ?_
      refine zg_2_12 C hs hP ha0 hk0 wf_X2_74 dX2_forward_93 ?_
      refine lv_iload hx hb dX2_forward_96 (lv_at hl 0 rfl) ?_
      refine lv_iconst (v := 1) hx hb dX2_forward_98 (by decide) ?_
      refine lv_iand hx hb dX2_forward_99 ?_
      refine lv_topi (fun x_25 ex_25 => ?_)
      refine lv_aload_n hx hb dX2_forward_100 rfl (lv_at hl 4 rfl) ?_
      refine zg_2_9 C hs hP ha0 hk0 wf_X2_49 dX2_forward_101 ?_
      have J_112_28 : ∀ (y_27 : Int32) (ls : Array Slot), (y_27 = 0 ∨ y_27 = 1) → lv_has ls 7 [(0, .ref a0), (1, .int x1), (2, .int x2), (3, .ref (zr K (zr K a0 5) (vi a0 11).toNatClampNeg)), (4, .ref (zr K (zr K a0 6) (vi a0 11).toNatClampNeg)), (5, .int x_17), (6, .int x_24)] → W p l e (rmd 3) s m args below meth c H locs 0 0 Q (F0 m 112 ls [.int y_27, .int (vi_23 a0 12), .ref a0]) := by
        intro y_27 ls hb_y_27 hl
        refine lv_iadd hx hb dX2_forward_112 ?_
        refine lv_topi (fun x_30 ex_30 => ?_)
        refine kp_2_12 C hO hs hP hS ha0 hk0 wf_X2_74 hI dX2_forward_113 (fun vi_31 H locs hI hP hS => ?_)
        refine lv_aload_n hx hb dX2_forward_116 rfl (lv_at hl 0 rfl) ?_
        refine lv_aload_n hx hb dX2_forward_117 rfl (lv_at hl 0 rfl) ?_
        refine zg_2_11 C hs hP ha0 hk0 wf_X2_71 dX2_forward_118 ?_
        have hv_32 : 0 ≤ (vi_31 a0 11).toInt ∧ (vi_31 a0 11).toInt ≤ 4 := hI.2.1 _ ha0 hk0
        refine lv_iconst (v := 1) hx hb dX2_forward_121 (by decide) ?_
        refine lv_iadd hx hb dX2_forward_122 ?_
        refine lv_topi (fun x_33 ex_33 => ?_)
        refine lv_iconst (v := 4) hx hb dX2_forward_123 (by decide) ?_
        refine va_mmin hx hb (hml.trans hl.1.symm) hown (hts _ wm_X2_152) (hts _ wt_Lib_Math_min_name) (hts _ wn_J9) (hts _ wo_min) (by decide) (Nat.le_of_ble_eq_true rfl) (Nat.zero_le _) (Nat.zero_le _) dX2_forward_124 ?_
        refine lv_topi (fun x_34 ex_34 => ?_)
        have g_35 := z_rng (vi_31 a0 11)
        obtain ⟨f_33, l_33, u_33⟩ := z_add ex_33 rfl ti_1
        have f_34 := z_min ex_34 rfl ti_4
        refine kp_2_11 C hO hs hP hS ha0 hk0 wf_X2_71 hI (by refine ⟨?_, ?_⟩ <;> omega) dX2_forward_127 (fun vi_36 H locs hI hP hS => ?_)
        refine lv_aload_n hx hb dX2_forward_130 rfl (lv_at hl 0 rfl) ?_
        refine lv_iload hx hb dX2_forward_131 (lv_at hl 6 rfl) ?_
        refine zcS (zrV (As := [.int x_24]) (b := a0) (rest := []) C hs hP hS (c_X2_nextAble l D K hO vi_36 va_23 vg hI a0 ha0 hk0 x_24) m_X2_nextAble wm_X2_173 (zrecv hs hP ha0 (zF_2 hk0) rfl) ⟨by decide, by decide⟩ hl.1 (Nat.le_of_ble_eq_true rfl) dX2_forward_133) (fun x_37 p_37 => ?_)
        exact zaI hQ hx hb hr hlk hP hS ⟨hI, rfl⟩ dX2_forward_136
      refine bi_ne (tgt := 111) hx hb rfl rfl dX2_forward_104 (by decide) (fun c_26 => ?_) (fun c_26 => ?_)
      · skip
        refine lv_iconst (v := 0) hx hb dX2_forward_111 (by decide) ?_
        exact J_112_28 0 _ (Or.inl rfl) (lv_sub hl [4, 5, 6, 3, 2, 1, 0] rfl)
      · skip
        refine lv_iconst (v := 1) hx hb dX2_forward_107 (by decide) ?_
        refine lv_goto (tgt := 112) hx hb dX2_forward_108 (by decide) ?_
        exact J_112_28 1 _ (Or.inr rfl) (lv_sub hl [4, 5, 6, 3, 2, 1, 0] rfl)
set_option maxHeartbeats 4000000 in
set_option maxRecDepth 100000 in
theorem c_X2_back (l : Launch) (D : va_G) (K : zK) (hO : zOk K) (vi va : Nat → Nat → Int32) (vg : Nat → Nat → Option Nat) (hI : zI K (vi, va, vg)) (a0 : Nat) (ha0 : a0 ∈ zl K) (hk0 : zk K a0 = 2) (x1 : Int32) (x2 : Int32) (x3 : Int32) : Met l yX2_back (zc yX2_back cX2_back 5 none) (rmd 2) (va_Pc [.ref a0, .int x1, .int x2, .int x3] (zB D K (vi, va, vg))) (zQv D K (fun V' => zI K V' ∧ V'.2.2 = vg)) 0 0 (zA K) := by
  refine zin (by decide) (Nat.le_of_ble_eq_true rfl) ?_
  intro p e s m args below meth c ls Q hQ C hr hlk hP hs hl
  have C : CallFix p m c cX2_back 5 s args zw RX2 := C
  obtain ⟨hx, hb, hml, hown, hts⟩ := id C
  have hS : va_S (zA K) s.heap s.heap [] := va_S.rf
  have hl : lv_has ls 5 [(0, .ref a0), (1, .int x1), (2, .int x2), (3, .int x3)] := hl
  refine lv_aload_n hx hb dX2_back_0 rfl (lv_at hl 0 rfl) ?_
  refine zg_2_5 C hs hP ha0 hk0 wf_X2_36 dX2_back_1 ?_
  have hf_1 := hO.r (j := 5) ha0 hk0 (rfl : zX 2 5 = some (23, 5))
  refine lv_aload_n hx hb dX2_back_4 rfl (lv_at hl 0 rfl) ?_
  refine zg_2_11 C hs hP ha0 hk0 wf_X2_71 dX2_back_5 ?_
  have hv_2 : 0 ≤ (vi a0 11).toInt ∧ (vi a0 11).toInt ≤ 4 := hI.2.1 _ ha0 hk0
  have g_4 := z_rng (vi a0 11)
  have hin_3 : vp_in (vi a0 11) (zn K (zr K a0 5)) := vp_in_iff.mpr (by rw [(hf_1.2.2 (by decide))]; refine ⟨?_, ?_⟩ <;> omega)
  refine zld_23 C hs hP hf_1.1 hf_1.2.1 hin_3 dX2_back_8 ?_
  have hf_5 := zel_23 hO hf_1.1 hf_1.2.1 hin_3
  refine zg_7_1 C hs hP hf_5.1 hf_5.2 wf_X2_88 dX2_back_9 ?_
  have J_32_10 : ∀ (vi_11 : Nat → Nat → Int32) (H : Heap) (locs : List Loc) (ls : Array Slot), zI K (vi_11, va, vg) → va_P D vwCl (zW K (vi_11, va, vg)) H → va_S (zA K) s.heap H locs → lv_has ls 5 [(0, .ref a0), (1, .int x1), (2, .int x2), (3, .int x3)] → W p l e (rmd 2) s m args below meth c H locs 0 0 Q (F0 m 32 ls []) := by
    intro vi_11 H locs ls hI hP hS hl
    refine lv_aload_n hx hb dX2_back_32 rfl (lv_at hl 0 rfl) ?_
    refine zg_2_5 C hs hP ha0 hk0 wf_X2_36 dX2_back_33 ?_
    refine lv_aload_n hx hb dX2_back_36 rfl (lv_at hl 0 rfl) ?_
    refine zg_2_11 C hs hP ha0 hk0 wf_X2_71 dX2_back_37 ?_
    have hv_13 : 0 ≤ (vi_11 a0 11).toInt ∧ (vi_11 a0 11).toInt ≤ 4 := hI.2.1 _ ha0 hk0
    have g_15 := z_rng (vi_11 a0 11)
    have hin_14 : vp_in (vi_11 a0 11) (zn K (zr K a0 5)) := vp_in_iff.mpr (by rw [(hf_1.2.2 (by decide))]; refine ⟨?_, ?_⟩ <;> omega)
    refine zld_23 C hs hP hf_1.1 hf_1.2.1 hin_14 dX2_back_40 ?_
    have hf_16 := zel_23 hO hf_1.1 hf_1.2.1 hin_14
    refine lv_aload_n hx hb dX2_back_41 rfl (lv_at hl 0 rfl) ?_
    refine zg_2_5 C hs hP ha0 hk0 wf_X2_36 dX2_back_42 ?_
    refine lv_aload_n hx hb dX2_back_45 rfl (lv_at hl 0 rfl) ?_
    refine zg_2_11 C hs hP ha0 hk0 wf_X2_71 dX2_back_46 ?_
    have hin_17 : vp_in (vi_11 a0 11) (zn K (zr K a0 5)) := vp_in_iff.mpr (by rw [(hf_1.2.2 (by decide))]; refine ⟨?_, ?_⟩ <;> omega)
    refine zld_23 C hs hP hf_1.1 hf_1.2.1 hin_17 dX2_back_49 ?_
    refine zg_7_1 C hs hP hf_16.1 hf_16.2 wf_X2_88 dX2_back_50 ?_
    refine lv_iconst (v := 1) hx hb dX2_back_53 (by decide) ?_
    refine lv_isub hx hb dX2_back_54 ?_
    refine lv_topi (fun x_18 ex_18 => ?_)
    refine zcI (zrV (As := [.int x_18]) (b := zr K (zr K a0 5) (vi_11 a0 11).toNatClampNeg) (rest := []) C hs hP hS (c_X8_takeAt l D K hO vi_11 va vg hI (zr K (zr K a0 5) (vi_11 a0 11).toNatClampNeg) hf_16.1 hf_16.2 x_18) m_X8_takeAt wm_X2_167 (zrecv hs hP hf_16.1 (zF_7 hf_16.2) rfl) ⟨by decide, by decide⟩ hl.1 (Nat.le_of_ble_eq_true rfl) dX2_back_55) hS (fun x_19 V_19 H locs p_19 hP hS => ?_)
    obtain ⟨vi_19, va_19, vg_19⟩ := V_19
    obtain ⟨hI, hg_19⟩ := p_19
    try dsimp only at hI hg_19
    replace hg_19 := hg_19.symm
    subst hg_19
    refine lv_istore (lv' := [(4, .int x_19), (0, .ref a0), (1, .int x1), (2, .int x2), (3, .int x3)]) hx hb dX2_back_58 hl (by decide) rfl (fun ls hl => ?_)
    refine lv_aload_n hx hb dX2_back_60 rfl (lv_at hl 1 rfl) ?_
    refine zg_2_6 C hs hP ha0 hk0 wf_X2_39 dX2_back_61 ?_
    have hf_20 := hO.r (j := 6) ha0 hk0 (rfl : zX 2 6 = some (23, 5))
    refine lv_aload_n hx hb dX2_back_64 rfl (lv_at hl 1 rfl) ?_
    refine zg_2_11 C hs hP ha0 hk0 wf_X2_71 dX2_back_65 ?_
    have hv_21 : 0 ≤ (vi_19 a0 11).toInt ∧ (vi_19 a0 11).toInt ≤ 4 := hI.2.1 _ ha0 hk0
    have g_23 := z_rng (vi_19 a0 11)
    have hin_22 : vp_in (vi_19 a0 11) (zn K (zr K a0 6)) := vp_in_iff.mpr (by rw [(hf_20.2.2 (by decide))]; refine ⟨?_, ?_⟩ <;> omega)
    refine zld_23 C hs hP hf_20.1 hf_20.2.1 hin_22 dX2_back_68 ?_
    have hf_24 := zel_23 hO hf_20.1 hf_20.2.1 hin_22
    refine lv_aload_n hx hb dX2_back_69 rfl (lv_at hl 1 rfl) ?_
    refine zg_2_6 C hs hP ha0 hk0 wf_X2_39 dX2_back_70 ?_
    refine lv_aload_n hx hb dX2_back_73 rfl (lv_at hl 1 rfl) ?_
    refine zg_2_11 C hs hP ha0 hk0 wf_X2_71 dX2_back_74 ?_
    have hin_25 : vp_in (vi_19 a0 11) (zn K (zr K a0 6)) := vp_in_iff.mpr (by rw [(hf_20.2.2 (by decide))]; refine ⟨?_, ?_⟩ <;> omega)
    refine zld_23 C hs hP hf_20.1 hf_20.2.1 hin_25 dX2_back_77 ?_
    refine zg_7_1 C hs hP hf_24.1 hf_24.2 wf_X2_88 dX2_back_78 ?_
    refine lv_iconst (v := 1) hx hb dX2_back_81 (by decide) ?_
    refine lv_isub hx hb dX2_back_82 ?_
    refine lv_topi (fun x_26 ex_26 => ?_)
    refine zcI (zrV (As := [.int x_26]) (b := zr K (zr K a0 6) (vi_19 a0 11).toNatClampNeg) (rest := []) C hs hP hS (c_X8_takeAt l D K hO vi_19 va_19 vg hI (zr K (zr K a0 6) (vi_19 a0 11).toNatClampNeg) hf_24.1 hf_24.2 x_26) m_X8_takeAt wm_X2_167 (zrecv hs hP hf_24.1 (zF_7 hf_24.2) rfl) ⟨by decide, by decide⟩ hl.1 (Nat.le_of_ble_eq_true rfl) dX2_back_83) hS (fun x_27 V_27 H locs p_27 hP hS => ?_)
    obtain ⟨vi_27, va_27, vg_27⟩ := V_27
    obtain ⟨hI, hg_27⟩ := p_27
    try dsimp only at hI hg_27
    replace hg_27 := hg_27.symm
    subst hg_27
    refine lv_pop hx hb dX2_back_86 rfl ?_
    refine lv_aload_n hx hb dX2_back_87 rfl (lv_at hl 1 rfl) ?_
    refine zg_2_4 C hs hP ha0 hk0 wf_X2_32 dX2_back_88 ?_
    have hf_28 := hO.r (j := 4) ha0 hk0 (rfl : zX 2 4 = some (23, 4))
    refine lv_iload_n hx hb dX2_back_91 rfl (lv_at hl 2 rfl) ?_
    refine lv_iconst (v := 3) hx hb dX2_back_92 (by decide) ?_
    refine lv_iand hx hb dX2_back_93 ?_
    refine lv_topi (fun x_29 ex_29 => ?_)
    have f_29 := z_and ex_29 ti_3 (by decide)
    have hin_30 : vp_in x_29 (zn K (zr K a0 4)) := vp_in_iff.mpr (by rw [(hf_28.2.2 (by decide))]; refine ⟨?_, ?_⟩ <;> omega)
    refine zld_23 C hs hP hf_28.1 hf_28.2.1 hin_30 dX2_back_94 ?_
    have hf_31 := zel_23 hO hf_28.1 hf_28.2.1 hin_30
    refine lv_iload_n hx hb dX2_back_95 rfl (lv_at hl 3 rfl) ?_
    refine lv_iload hx hb dX2_back_96 (lv_at hl 0 rfl) ?_
    refine zcV (zrV (As := [.int x2, .int x_19]) (b := zr K (zr K a0 4) x_29.toNatClampNeg) (rest := []) C hs hP hS (c_X8_putAt l D K hO vi_27 va_27 vg hI (zr K (zr K a0 4) x_29.toNatClampNeg) hf_31.1 hf_31.2 x2 x_19) m_X8_putAt wm_X2_180 (zrecv hs hP hf_31.1 (zF_7 hf_31.2) rfl) ⟨by decide, by decide⟩ hl.1 (Nat.le_of_ble_eq_true rfl) dX2_back_98) hS (fun V_32 H locs p_32 hP hS => ?_)
    obtain ⟨vi_32, va_32, vg_32⟩ := V_32
    obtain ⟨hI, hg_32⟩ := p_32
    try dsimp only at hI hg_32
    replace hg_32 := hg_32.symm
    subst hg_32
    refine lv_aload_n hx hb dX2_back_101 rfl (lv_at hl 1 rfl) ?_
    refine lv_iload_n hx hb dX2_back_102 rfl (lv_at hl 4 rfl) ?_
    refine kp_2_12 C hO hs hP hS ha0 hk0 wf_X2_74 hI dX2_back_103 (fun vi_33 H locs hI hP hS => ?_)
    exact zaV hQ hx hb hr hlk hP hS ⟨hI, rfl⟩ dX2_back_106
  refine bz_ne (tgt := 32) hx hb rfl dX2_back_12 (by decide) (fun c_6 => ?_) (fun c_6 => ?_)
  · skip
    exact J_32_10 vi _ _ _ hI hP hS (lv_sub hl [0, 1, 2, 3] rfl)
  · skip
    refine lv_aload_n hx hb dX2_back_15 rfl (lv_at hl 0 rfl) ?_
    refine zg_2_11 C hs hP ha0 hk0 wf_X2_71 dX2_back_16 ?_
    refine bz_le (tgt := 32) hx hb rfl dX2_back_19 (by decide) (fun c_34 => ?_) (fun c_34 => ?_)
    · skip
      exact J_32_10 vi _ _ _ hI hP hS (lv_sub hl [0, 1, 2, 3] rfl)
    · skip
      refine lv_aload_n hx hb dX2_back_22 rfl (lv_at hl 0 rfl) ?_
      refine lv_dup hx hb dX2_back_23 rfl ?_
      refine zg_2_11 C hs hP ha0 hk0 wf_X2_71 dX2_back_24 ?_
      refine lv_iconst (v := 1) hx hb dX2_back_27 (by decide) ?_
      refine lv_isub hx hb dX2_back_28 ?_
      refine lv_topi (fun x_35 ex_35 => ?_)
      obtain ⟨f_35, l_35, u_35⟩ := z_sub ex_35 rfl ti_1
      refine kp_2_11 C hO hs hP hS ha0 hk0 wf_X2_71 hI (by refine ⟨?_, ?_⟩ <;> omega) dX2_back_29 (fun vi_36 H locs hI hP hS => ?_)
      exact J_32_10 vi_36 _ _ _ hI hP hS (lv_sub hl [0, 1, 2, 3] rfl)
