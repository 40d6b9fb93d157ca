set_option maxHeartbeats 4000000 in
set_option maxRecDepth 100000 in
theorem c_X2_reaches_k (l : Launch) (D : va_G) (K : zK) (hO : zOk K) : ∀ (k : Nat) (vi va : Nat → Nat → Int32) (vg : Nat → Nat → Option Nat) (hI : zI K (vi, va, vg)) (a0 : Nat) (ha0 : a0 ∈ zl K) (hk0 : zk K a0 = 2) (x1 : Int32) (x2 : Int32) (x3 : Int32) (hp0 : 0 ≤ x3.toInt) (hkk : (16 - x3.toInt).toNat ≤ k), Met l yX2_reaches (zc yX2_reaches cX2_reaches 14 (some .boolean)) (rmd (4 + k)) (va_Pc [.ref a0, .int x1, .int x2, .int x3] (zB D K (vi, va, vg))) (zQi D K (fun r V' => zI K V' ∧ V'.2.2 = vg ∧ (r = 0 ∨ r = 1))) 0 0 (zA K) := by
  intro k
  induction k using Nat.strongRecOn with
  | ind k ih =>
  intro vi va vg hI a0 ha0 hk0 x1 x2 x3 hp0 hkk
  refine zin (by decide) (Nat.le_of_ble_eq_true rfl) ?_
  intro p e s m args below meth c ls Q hQ C hr hlk hP hs hl
  have C : CallFix p m c cX2_reaches 14 s args zw RX2 := C
  obtain ⟨hx, hb, hml, hown, hts⟩ := id C
  have hS : va_S (zA K) s.heap s.heap [] := va_S.rf
  have hl : lv_has ls 14 [(0, .ref a0), (1, .int x1), (2, .int x2), (3, .int x3)] := hl
  refine lv_iload_n hx hb dX2_reaches_0 rfl (lv_at hl 2 rfl) ?_
  refine bz_le (tgt := 37) hx hb rfl dX2_reaches_1 (by decide) (fun c_1 => ?_) (fun c_1 => ?_)
  · skip
    refine lv_iload_n hx hb dX2_reaches_37 rfl (lv_at hl 2 rfl) ?_
    refine bz_gt (tgt := 45) hx hb rfl dX2_reaches_38 (by decide) (fun c_2 => ?_) (fun c_2 => ?_)
    · skip
      refine lv_iconst (v := 0) hx hb dX2_reaches_45 (by decide) ?_
      exact zaZ hQ hx hb hr hlk hP hS (Or.inl rfl) ⟨hI, rfl, (Or.inl rfl)⟩ dX2_reaches_46
    · skip
      refine lv_iconst (v := 1) hx hb dX2_reaches_41 (by decide) ?_
      refine lv_goto (tgt := 46) hx hb dX2_reaches_42 (by decide) ?_
      exact zaZ hQ hx hb hr hlk hP hS (Or.inr rfl) ⟨hI, rfl, (Or.inr rfl)⟩ dX2_reaches_46
  · skip
    refine lv_iload_n hx hb dX2_reaches_4 rfl (lv_at hl 2 rfl) ?_
    refine lv_aload_n hx hb dX2_reaches_5 rfl (lv_at hl 0 rfl) ?_
    refine zg_2_10 C hs hP ha0 hk0 wf_X2_77 dX2_reaches_6 ?_
    refine lv_aload_n hx hb dX2_reaches_9 rfl (lv_at hl 0 rfl) ?_
    refine zg_2_11 C hs hP ha0 hk0 wf_X2_71 dX2_reaches_10 ?_
    have hv_3 : 0 ≤ (vi a0 11).toInt ∧ (vi a0 11).toInt ≤ 4 := hI.2.1 _ ha0 hk0
    refine lv_isub hx hb dX2_reaches_13 ?_
    refine lv_topi (fun x_4 ex_4 => ?_)
    refine bi_gt (tgt := 37) hx hb rfl rfl dX2_reaches_14 (by decide) (fun c_5 => ?_) (fun c_5 => ?_)
    · skip
      refine lv_iload_n hx hb dX2_reaches_37 rfl (lv_at hl 2 rfl) ?_
      refine bz_gt (tgt := 45) hx hb rfl dX2_reaches_38 (by decide) (fun c_6 => ?_) (fun c_6 => ?_)
      · skip
        refine lv_iconst (v := 0) hx hb dX2_reaches_45 (by decide) ?_
        exact zaZ hQ hx hb hr hlk hP hS (Or.inl rfl) ⟨hI, rfl, (Or.inl rfl)⟩ dX2_reaches_46
      · skip
        refine lv_iconst (v := 1) hx hb dX2_reaches_41 (by decide) ?_
        refine lv_goto (tgt := 46) hx hb dX2_reaches_42 (by decide) ?_
        exact zaZ hQ hx hb hr hlk hP hS (Or.inr rfl) ⟨hI, rfl, (Or.inr rfl)⟩ dX2_reaches_46
    · skip
      refine lv_iload_n hx hb dX2_reaches_17 rfl (lv_at hl 1 rfl) ?_
      refine zcS (zrSN (As := [.int x1]) (rest := []) C hs hP hS (c_X11_isSeat l D K hO vi va vg hI x1) m_X11_isSeat (List.mem_of_getElem? (l := nw_M) (i := 7) rfl) ⟨by omega, by omega⟩ hl.1 (Nat.le_of_ble_eq_true rfl) dX2_reaches_18) (fun x_7 p_7 => ?_)
      have pp_7 : (x_7.toInt ≠ 0 → 0 ≤ x1.toInt ∧ x1.toInt ≤ 3) := p_7.2
      refine bz_eq (tgt := 37) hx hb rfl dX2_reaches_21 (by decide) (fun c_8 => ?_) (fun c_8 => ?_)
      · skip
        refine lv_iload_n hx hb dX2_reaches_37 rfl (lv_at hl 2 rfl) ?_
        refine bz_gt (tgt := 45) hx hb rfl dX2_reaches_38 (by decide) (fun c_9 => ?_) (fun c_9 => ?_)
        · skip
          refine lv_iconst (v := 0) hx hb dX2_reaches_45 (by decide) ?_
          exact zaZ hQ hx hb hr hlk hP hS (Or.inl rfl) ⟨hI, rfl, (Or.inl rfl)⟩ dX2_reaches_46
        · skip
          refine lv_iconst (v := 1) hx hb dX2_reaches_41 (by decide) ?_
          refine lv_goto (tgt := 46) hx hb dX2_reaches_42 (by decide) ?_
          exact zaZ hQ hx hb hr hlk hP hS (Or.inr rfl) ⟨hI, rfl, (Or.inr rfl)⟩ dX2_reaches_46
      · skip
        refine lv_iload_n hx hb dX2_reaches_24 rfl (lv_at hl 3 rfl) ?_
        refine lv_bipush (v := 16) hx hb dX2_reaches_25 (by decide) ?_
        refine bi_ge (tgt := 37) hx hb rfl ti_16 dX2_reaches_27 (by decide) (fun c_10 => ?_) (fun c_10 => ?_)
        · skip
          refine lv_iload_n hx hb dX2_reaches_37 rfl (lv_at hl 2 rfl) ?_
          refine bz_gt (tgt := 45) hx hb rfl dX2_reaches_38 (by decide) (fun c_11 => ?_) (fun c_11 => ?_)
          · skip
            refine lv_iconst (v := 0) hx hb dX2_reaches_45 (by decide) ?_
            exact zaZ hQ hx hb hr hlk hP hS (Or.inl rfl) ⟨hI, rfl, (Or.inl rfl)⟩ dX2_reaches_46
          · skip
            refine lv_iconst (v := 1) hx hb dX2_reaches_41 (by decide) ?_
            refine lv_goto (tgt := 46) hx hb dX2_reaches_42 (by decide) ?_
            exact zaZ hQ hx hb hr hlk hP hS (Or.inr rfl) ⟨hI, rfl, (Or.inr rfl)⟩ dX2_reaches_46
        · skip
          refine lv_aload_n hx hb dX2_reaches_30 rfl (lv_at hl 0 rfl) ?_
          rcases hg_12 : vg a0 8 with _ | q_12
          · refine zgn_2_8 C hs hP ha0 hk0 wf_X2_65 hg_12 dX2_reaches_31 ?_
            refine lv_ifnonnullN hx hb dX2_reaches_34 ?_
            refine lv_iload_n hx hb dX2_reaches_37 rfl (lv_at hl 2 rfl) ?_
            refine bz_gt (tgt := 45) hx hb rfl dX2_reaches_38 (by decide) (fun c_13 => ?_) (fun c_13 => ?_)
            · skip
              refine lv_iconst (v := 0) hx hb dX2_reaches_45 (by decide) ?_
              exact zaZ hQ hx hb hr hlk hP hS (Or.inl rfl) ⟨hI, rfl, (Or.inl rfl)⟩ dX2_reaches_46
            · skip
              refine lv_iconst (v := 1) hx hb dX2_reaches_41 (by decide) ?_
              refine lv_goto (tgt := 46) hx hb dX2_reaches_42 (by decide) ?_
              exact zaZ hQ hx hb hr hlk hP hS (Or.inr rfl) ⟨hI, rfl, (Or.inr rfl)⟩ dX2_reaches_46
          · have hq_12 := hI.2.2.2.2.2 _ ha0 hk0 _ hg_12
            refine zgs_2_8 C hs hP ha0 hk0 wf_X2_65 hg_12 dX2_reaches_31 ?_
            refine lv_ifnonnull (tgt := 47) hx hb dX2_reaches_34 (by decide) ?_
            refine lv_aload_n hx hb dX2_reaches_47 rfl (lv_at hl 0 rfl) ?_
            refine lv_iload_n hx hb dX2_reaches_48 rfl (lv_at hl 1 rfl) ?_
            refine zcS (zrV (As := [.int x1]) (b := a0) (rest := []) C hs hP hS (c_X2_keyOf l D K hO vi va vg hI a0 ha0 hk0 x1) m_X2_keyOf wm_X2_135 (zrecv hs hP ha0 (zF_2 hk0) rfl) ⟨by omega, by omega⟩ hl.1 (Nat.le_of_ble_eq_true rfl) dX2_reaches_49) (fun x_14 p_14 => ?_)
            have pp_14 : x_14.toInt = -1 ∨ 0 ≤ x_14.toInt ∧ x_14.toInt < 20736 := p_14
            refine lv_istore (lv' := [(4, .int x_14), (0, .ref a0), (1, .int x1), (2, .int x2), (3, .int x3)]) hx hb dX2_reaches_52 hl (by decide) rfl (fun ls hl => ?_)
            refine lv_aload_n hx hb dX2_reaches_54 rfl (lv_at hl 1 rfl) ?_
            refine lv_iload hx hb dX2_reaches_55 (lv_at hl 0 rfl) ?_
            refine zcS (zrV (As := [.int x_14]) (b := a0) (rest := []) C hs hP hS (c_X2_boundsAt l D K hO vi va vg hI a0 ha0 hk0 x_14) m_X2_boundsAt wm_X2_138 (zrecv hs hP ha0 (zF_2 hk0) rfl) ⟨by omega, by omega⟩ hl.1 (Nat.le_of_ble_eq_true rfl) dX2_reaches_57) (fun x_15 p_15 => ?_)
            refine lv_istore (lv' := [(5, .int x_15), (4, .int x_14), (0, .ref a0), (1, .int x1), (2, .int x2), (3, .int x3)]) hx hb dX2_reaches_60 hl (by decide) rfl (fun ls hl => ?_)
            refine lv_iload hx hb dX2_reaches_62 (lv_at hl 0 rfl) ?_
            refine lv_iconst (v := 3) hx hb dX2_reaches_64 (by decide) ?_
            refine lv_ishr hx hb dX2_reaches_65 ?_
            refine lv_topi (fun x_16 ex_16 => ?_)
            refine lv_istore (lv' := [(6, .int x_16), (5, .int x_15), (4, .int x_14), (0, .ref a0), (1, .int x1), (2, .int x2), (3, .int x3)]) hx hb dX2_reaches_66 hl (by decide) rfl (fun ls hl => ?_)
            refine lv_iload hx hb dX2_reaches_68 (lv_at hl 1 rfl) ?_
            refine lv_bipush (v := 7) hx hb dX2_reaches_70 (by decide) ?_
            refine lv_iand hx hb dX2_reaches_72 ?_
            refine lv_topi (fun x_17 ex_17 => ?_)
            refine lv_istore (lv' := [(7, .int x_17), (6, .int x_16), (5, .int x_15), (4, .int x_14), (0, .ref a0), (1, .int x1), (2, .int x2), (3, .int x3)]) hx hb dX2_reaches_73 hl (by decide) rfl (fun ls hl => ?_)
            refine lv_iload_n hx hb dX2_reaches_75 rfl (lv_at hl 6 rfl) ?_
            refine lv_iload hx hb dX2_reaches_76 (lv_at hl 1 rfl) ?_
            refine bi_le (tgt := 87) hx hb rfl rfl dX2_reaches_78 (by decide) (fun c_18 => ?_) (fun c_18 => ?_)
            · skip
              refine lv_iload_n hx hb dX2_reaches_87 rfl (lv_at hl 6 rfl) ?_
              refine lv_iload hx hb dX2_reaches_88 (lv_at hl 1 rfl) ?_
              refine bi_gt (tgt := 97) hx hb rfl rfl dX2_reaches_90 (by decide) (fun c_19 => ?_) (fun c_19 => ?_)
              · skip
                refine lv_iconst (v := 0) hx hb dX2_reaches_97 (by decide) ?_
                exact zaZ hQ hx hb hr hlk hP hS (Or.inl rfl) ⟨hI, rfl, (Or.inl rfl)⟩ dX2_reaches_98
              · skip
                refine lv_iconst (v := 1) hx hb dX2_reaches_93 (by decide) ?_
                refine lv_goto (tgt := 98) hx hb dX2_reaches_94 (by decide) ?_
                exact zaZ hQ hx hb hr hlk hP hS (Or.inr rfl) ⟨hI, rfl, (Or.inr rfl)⟩ dX2_reaches_98
            · skip
              refine lv_iload_n hx hb dX2_reaches_81 rfl (lv_at hl 6 rfl) ?_
              refine lv_iload hx hb dX2_reaches_82 (lv_at hl 0 rfl) ?_
              refine bi_lt (tgt := 99) hx hb rfl rfl dX2_reaches_84 (by decide) (fun c_20 => ?_) (fun c_20 => ?_)
              · skip
                refine lv_iload_n hx hb dX2_reaches_99 rfl (lv_at hl 5 rfl) ?_
                refine lv_iconst (v := 1) hx hb dX2_reaches_100 (by decide) ?_
                refine lv_iand hx hb dX2_reaches_101 ?_
                refine lv_topi (fun x_21 ex_21 => ?_)
                refine lv_aload_n hx hb dX2_reaches_102 rfl (lv_at hl 4 rfl) ?_
                refine zg_2_9 C hs hP ha0 hk0 wf_X2_49 dX2_reaches_103 ?_
                have J_114_24 : ∀ (y_23 : Int32) (ls : Array Slot), (y_23 = 0 ∨ y_23 = 1) → lv_has ls 14 [(0, .ref a0), (1, .int x1), (2, .int x2), (3, .int x3), (4, .int x_14), (5, .int x_15), (6, .int x_16), (7, .int x_17)] → W p l e (rmd (4 + k)) s m args below meth c s.heap [] 0 0 Q (F0 m 114 ls [.int y_23]) := by
                  intro y_23 ls hb_y_23 hl
                  refine lv_istore (lv' := [(8, .int y_23), (0, .ref a0), (1, .int x1), (2, .int x2), (3, .int x3), (4, .int x_14), (5, .int x_15), (6, .int x_16), (7, .int x_17)]) hx hb dX2_reaches_114 hl (by decide) rfl (fun ls hl => ?_)
                  refine lv_iload hx hb dX2_reaches_116 (lv_at hl 0 rfl) ?_
                  have J_126_28 : ∀ (y_27 : Int32) (ls : Array Slot), (y_27 = 0 ∨ y_27 = 1) → lv_has ls 14 [(0, .ref a0), (1, .int x1), (2, .int x2), (3, .int x3), (4, .int x_14), (5, .int x_15), (6, .int x_16), (7, .int x_17), (8, .int y_23)] → W p l e (rmd (4 + k)) s m args below meth c s.heap [] 0 0 Q (F0 m 126 ls [.int y_27]) := by
                    intro y_27 ls hb_y_27 hl
                    refine lv_istore (lv' := [(9, .int y_27), (0, .ref a0), (1, .int x1), (2, .int x2), (3, .int x3), (4, .int x_14), (5, .int x_15), (6, .int x_16), (7, .int x_17), (8, .int y_23)]) hx hb dX2_reaches_126 hl (by decide) rfl (fun ls hl => ?_)
                    refine lv_aload_n hx hb dX2_reaches_128 rfl (lv_at hl 1 rfl) ?_
                    refine zg_2_4 C hs hP ha0 hk0 wf_X2_32 dX2_reaches_129 ?_
                    have hf_30 := hO.r (j := 4) ha0 hk0 (rfl : zX 2 4 = some (23, 4))
                    refine lv_iload_n hx hb dX2_reaches_132 rfl (lv_at hl 2 rfl) ?_
                    have g_32 := z_rng x1
                    have g_33 := z_rng (vi a0 10)
                    have g_34 := z_rng (vi a0 11)
                    obtain ⟨f_4, l_4, u_4⟩ := z_sub ex_4 rfl rfl
                    have f_17 := z_and ex_17 ti_7 (by decide)
                    have hin_31 : vp_in x1 (zn K (zr K a0 4)) := vp_in_iff.mpr (by rw [(hf_30.2.2 (by decide))]; refine ⟨?_, ?_⟩ <;> omega)
                    refine zld_23 C hs hP hf_30.1 hf_30.2.1 hin_31 dX2_reaches_133 ?_
                    have hf_35 := zel_23 hO hf_30.1 hf_30.2.1 hin_31
                    refine zg_7_1 C hs hP hf_35.1 hf_35.2 wf_X2_88 dX2_reaches_134 ?_
                    refine lv_istore (lv' := [(10, .int (vi (zr K (zr K a0 4) x1.toNatClampNeg) 1)), (9, .int y_27), (0, .ref a0), (1, .int x1), (2, .int x2), (3, .int x3), (4, .int x_14), (5, .int x_15), (6, .int x_16), (7, .int x_17), (8, .int y_23)]) hx hb dX2_reaches_137 hl (by decide) rfl (fun ls hl => ?_)
                    refine lv_iconst (v := 0) hx hb dX2_reaches_139 (by decide) ?_
                    refine lv_istore (lv' := [(11, .int 0), (10, .int (vi (zr K (zr K a0 4) x1.toNatClampNeg) 1)), (9, .int y_27), (0, .ref a0), (1, .int x1), (2, .int x2), (3, .int x3), (4, .int x_14), (5, .int x_15), (6, .int x_16), (7, .int x_17), (8, .int y_23)]) hx hb dX2_reaches_140 hl (by decide) rfl (fun ls hl => ?_)
                    have L_142_38 : ∀ (n_38 : Nat) (vi_39 : Nat → Nat → Int32) (va_39 : Nat → Nat → Int32) (H : Heap) (locs : List Loc) (y_36 : Int32) (y_37 : Int32) (ls : Array Slot), (2147483648 - y_36.toInt).toNat < n_38 → (y_37 = 0 ∨ y_37 = 1) → 0 ≤ y_36.toInt → zI K (vi_39, va_39, vg) → va_P D vwCl (zW K (vi_39, va_39, vg)) H → va_S (zA K) s.heap H locs → lv_has ls 14 [(11, .int y_36), (10, .int (vi (zr K (zr K a0 4) x1.toNatClampNeg) 1)), (9, .int y_37), (0, .ref a0), (1, .int x1), (2, .int x2), (3, .int x3), (4, .int x_14), (5, .int x_15), (6, .int x_16), (7, .int x_17), (8, .int y_23)] → W p l e (rmd (4 + k)) s m args below meth c H locs 0 0 Q (F0 m 142 ls []) := by
                      intro n_38
                      induction n_38 with
                      | zero => intro vi_39 va_39 H locs y_36 y_37 ls hm_38; exact absurd hm_38 (Nat.not_lt_zero _)
                      | succ n_38 ih_38 =>
                        intro vi_39 va_39 H locs y_36 y_37 ls hm_38 hb_y_37 iv_39_0 hI hP hS hl
                        refine lv_iload hx hb dX2_reaches_142 (lv_at hl 0 rfl) ?_
                        refine lv_iload hx hb dX2_reaches_144 (lv_at hl 1 rfl) ?_
                        have J_216_80 : ∀ (ls : Array Slot), lv_has ls 14 [(0, .ref a0), (1, .int x1), (2, .int x2), (3, .int x3), (4, .int x_14), (5, .int x_15), (6, .int x_16), (7, .int x_17), (8, .int y_23), (9, .int y_37), (10, .int (vi (zr K (zr K a0 4) x1.toNatClampNeg) 1)), (11, .int y_36)] → W p l e (rmd (4 + k)) s m args below meth c H locs 0 0 Q (F0 m 216 ls []) := by
                          intro ls hl
                          refine lv_iload hx hb dX2_reaches_216 (lv_at hl 4 rfl) ?_
                          refine lv_iconst (v := (-1)) hx hb dX2_reaches_218 (by decide) ?_
                          refine bi_eq (tgt := 257) hx hb rfl ti_m1 dX2_reaches_219 (by decide) (fun c_82 => ?_) (fun c_82 => ?_)
                          · skip
                            refine lv_iload hx hb dX2_reaches_257 (lv_at hl 9 rfl) ?_
                            exact zaZ hQ hx hb hr hlk hP hS hb_y_37 ⟨hI, rfl, hb_y_37⟩ dX2_reaches_259
                          · skip
                            refine lv_aload_n hx hb dX2_reaches_222 rfl (lv_at hl 0 rfl) ?_
                            refine zg_2_1 C hs hP ha0 hk0 wf_X2_20 dX2_reaches_223 ?_
                            have hf_83 := hO.r (j := 1) ha0 hk0 (rfl : zX 2 1 = some (20, 20736))
                            refine lv_iload hx hb dX2_reaches_226 (lv_at hl 4 rfl) ?_
                            refine lv_aload_n hx hb dX2_reaches_228 rfl (lv_at hl 0 rfl) ?_
                            refine zg_2_13 C hs hP ha0 hk0 wf_X2_68 dX2_reaches_229 ?_
                            refine lv_bipush (v := 6) hx hb dX2_reaches_232 (by decide) ?_
                            refine lv_ishl hx hb dX2_reaches_234 ?_
                            refine lv_topi (fun x_84 ex_84 => ?_)
                            refine lv_iload hx hb dX2_reaches_235 (lv_at hl 9 rfl) ?_
                            refine bz_eq (tgt := 249) hx hb rfl dX2_reaches_237 (by decide) (fun c_85 => ?_) (fun c_85 => ?_)
                            · skip
                              refine lv_iload hx hb dX2_reaches_249 (lv_at hl 6 rfl) ?_
                              refine lv_iconst (v := 3) hx hb dX2_reaches_251 (by decide) ?_
                              refine lv_ishl hx hb dX2_reaches_252 ?_
                              refine lv_topi (fun x_86 ex_86 => ?_)
                              refine lv_iload_n hx hb dX2_reaches_253 rfl (lv_at hl 2 rfl) ?_
                              refine lv_ior hx hb dX2_reaches_254 ?_
                              refine lv_topi (fun x_87 ex_87 => ?_)
                              refine lv_ior hx hb dX2_reaches_255 ?_
                              refine lv_topi (fun x_88 ex_88 => ?_)
                              have g_90 := z_rng x_14
                              have hin_89 : vp_in x_14 (zn K (zr K a0 1)) := vp_in_iff.mpr (by rw [(hf_83.2.2 (by decide))]; refine ⟨?_, ?_⟩ <;> omega)
                              refine ks_20 C hO hs hP hS hf_83.1 hf_83.2.1 hI hin_89 dX2_reaches_256 (fun va_91 H locs hI hP hS => ?_)
                              refine lv_iload hx hb dX2_reaches_257 (lv_at hl 9 rfl) ?_
                              exact zaZ hQ hx hb hr hlk hP hS hb_y_37 ⟨hI, rfl, hb_y_37⟩ dX2_reaches_259
                            · skip
                              refine lv_iload_n hx hb dX2_reaches_240 rfl (lv_at hl 2 rfl) ?_
                              refine lv_iconst (v := 3) hx hb dX2_reaches_241 (by decide) ?_
                              refine lv_ishl hx hb dX2_reaches_242 ?_
                              refine lv_topi (fun x_92 ex_92 => ?_)
                              refine lv_iload hx hb dX2_reaches_243 (lv_at hl 7 rfl) ?_
                              refine lv_ior hx hb dX2_reaches_245 ?_
                              refine lv_topi (fun x_93 ex_93 => ?_)
                              refine lv_goto (tgt := 255) hx hb dX2_reaches_246 (by decide) ?_
                              refine lv_ior hx hb dX2_reaches_255 ?_
                              refine lv_topi (fun x_94 ex_94 => ?_)
                              have g_96 := z_rng x_14
                              have hin_95 : vp_in x_14 (zn K (zr K a0 1)) := vp_in_iff.mpr (by rw [(hf_83.2.2 (by decide))]; refine ⟨?_, ?_⟩ <;> omega)
                              refine ks_20 C hO hs hP hS hf_83.1 hf_83.2.1 hI hin_95 dX2_reaches_256 (fun va_97 H locs hI hP hS => ?_)
                              refine lv_iload hx hb dX2_reaches_257 (lv_at hl 9 rfl) ?_
                              exact zaZ hQ hx hb hr hlk hP hS hb_y_37 ⟨hI, rfl, hb_y_37⟩ dX2_reaches_259
                        refine bi_ge (tgt := 216) hx hb rfl rfl dX2_reaches_146 (by decide) (fun c_41 => ?_) (fun c_41 => ?_)
                        · skip
                          exact J_216_80 _ (lv_sub hl [3, 4, 5, 6, 7, 8, 9, 10, 11, 2, 1, 0] rfl)
                        · skip
                          refine lv_iload hx hb dX2_reaches_149 (lv_at hl 2 rfl) ?_
                          refine lv_iload hx hb dX2_reaches_151 (lv_at hl 11 rfl) ?_
                          refine bi_eq (tgt := 216) hx hb rfl rfl dX2_reaches_153 (by decide) (fun c_98 => ?_) (fun c_98 => ?_)
                          · skip
                            exact J_216_80 _ (lv_sub hl [3, 4, 5, 6, 7, 8, 9, 10, 11, 2, 1, 0] rfl)
                          · skip
                            refine lv_aload_n hx hb dX2_reaches_156 rfl (lv_at hl 3 rfl) ?_
                            refine lv_iload_n hx hb dX2_reaches_157 rfl (lv_at hl 4 rfl) ?_
                            refine lv_iload hx hb dX2_reaches_158 (lv_at hl 0 rfl) ?_
                            refine zcI (zrV (As := [.int x1, .int y_36]) (b := a0) (rest := []) C hs hP hS (c_X2_lets l D K hO vi_39 va_39 vg hI a0 ha0 hk0 x1 y_36) m_X2_lets wm_X2_141 (zrecv hs hP ha0 (zF_2 hk0) rfl) ⟨by omega, by omega⟩ hl.1 (Nat.le_of_ble_eq_true rfl) dX2_reaches_160) hS (fun x_99 V_99 H locs p_99 hP hS => ?_)
                            obtain ⟨vi_99, va_99, vg_99⟩ := V_99
                            obtain ⟨hI, hg_99, hb_99⟩ := p_99
                            try dsimp only at hI hg_99
                            replace hg_99 := hg_99.symm
                            subst hg_99
                            have J_210_115 : ∀ (vi_116 : Nat → Nat → Int32) (va_116 : Nat → Nat → Int32) (H : Heap) (locs : List Loc) (y_114 : Int32) (ls : Array Slot), (y_114 = 0 ∨ y_114 = 1) → zI K (vi_116, va_116, vg) → va_P D vwCl (zW K (vi_116, va_116, vg)) H → va_S (zA K) s.heap H locs → lv_has ls 14 [(0, .ref a0), (1, .int x1), (2, .int x2), (3, .int x3), (4, .int x_14), (5, .int x_15), (6, .int x_16), (7, .int x_17), (8, .int y_23), (9, .int y_114), (10, .int (vi (zr K (zr K a0 4) x1.toNatClampNeg) 1)), (11, .int y_36)] → W p l e (rmd (4 + k)) s m args below meth c H locs 0 0 Q (F0 m 210 ls []) := by
                              intro vi_116 va_116 H locs y_114 ls hb_y_114 hI hP hS hl
                              obtain ⟨x_118, ex_118⟩ : ∃ y : Int32, y = y_36 + 1 := ⟨_, rfl⟩
                              refine lv_iinc (v := x_118) (lv' := [(11, .int x_118), (0, .ref a0), (1, .int x1), (2, .int x2), (3, .int x3), (4, .int x_14), (5, .int x_15), (6, .int x_16), (7, .int x_17), (8, .int y_23), (9, .int y_114), (10, .int (vi (zr K (zr K a0 4) x1.toNatClampNeg) 1))]) hx hb dX2_reaches_210 hl (k := 11) rfl (by rw [ex_118]; rfl) (by decide) rfl (fun ls hl => ?_)
                              refine lv_goto (tgt := 142) hx hb dX2_reaches_213 (by decide) ?_
                              have g_119 := z_rng y_36
                              obtain ⟨f_118, l_118, u_118⟩ := z_add ex_118 rfl ti_1
                              have g_120 := z_rng y_114
                              have g_121 := z_rng (vi (zr K (zr K a0 4) x1.toNatClampNeg) 1)
                              have g_122 := z_rng y_37
                              have g_123 := z_rng y_23
                              exact ih_38 vi_116 va_116 _ _ x_118 y_114 _ (by omega) hb_y_114 (by omega) hI hP hS (lv_sub hl [0, 11, 10, 1, 2, 3, 4, 5, 6, 7, 8, 9] rfl)
                            refine bz_eq (tgt := 210) hx hb rfl dX2_reaches_163 (by decide) (fun c_100 => ?_) (fun c_100 => ?_)
                            · skip
                              exact J_210_115 vi_99 va_99 _ _ y_37 _ hb_y_37 hI hP hS (lv_sub hl [3, 4, 5, 6, 7, 8, 9, 10, 11, 2, 1, 0] rfl)
                            · skip
                              refine lv_aload_n hx hb dX2_reaches_166 rfl (lv_at hl 3 rfl) ?_
                              refine zg_2_12 C hs hP ha0 hk0 wf_X2_74 dX2_reaches_167 ?_
                              refine lv_istore (lv' := [(12, .int (vi_99 a0 12)), (11, .int y_36), (10, .int (vi (zr K (zr K a0 4) x1.toNatClampNeg) 1)), (9, .int y_37), (0, .ref a0), (1, .int x1), (2, .int x2), (3, .int x3), (4, .int x_14), (5, .int x_15), (6, .int x_16), (7, .int x_17), (8, .int y_23)]) hx hb dX2_reaches_170 hl (by decide) rfl (fun ls hl => ?_)
                              refine lv_aload_n hx hb dX2_reaches_172 rfl (lv_at hl 4 rfl) ?_
                              refine lv_iload_n hx hb dX2_reaches_173 rfl (lv_at hl 5 rfl) ?_
                              refine lv_iload hx hb dX2_reaches_174 (lv_at hl 1 rfl) ?_
                              refine zcI (zrV (As := [.int x1, .int y_36]) (b := a0) (rest := []) C hs hP hS (c_X2_forward l D K hO vi_99 va_99 vg hI a0 ha0 hk0 x1 y_36) m_X2_forward wm_X2_128 (zrecv hs hP ha0 (zF_2 hk0) rfl) ⟨by omega, by omega⟩ hl.1 (Nat.le_of_ble_eq_true rfl) dX2_reaches_176) hS (fun x_124 V_124 H locs p_124 hP hS => ?_)
                              obtain ⟨vi_124, va_124, vg_124⟩ := V_124
                              obtain ⟨hI, hg_124⟩ := p_124
                              try dsimp only at hI hg_124
                              replace hg_124 := hg_124.symm
                              subst hg_124
                              refine lv_istore (lv' := [(13, .int x_124), (12, .int (vi_99 a0 12)), (11, .int y_36), (10, .int (vi (zr K (zr K a0 4) x1.toNatClampNeg) 1)), (9, .int y_37), (0, .ref a0), (1, .int x1), (2, .int x2), (3, .int x3), (4, .int x_14), (5, .int x_15), (6, .int x_16), (7, .int x_17), (8, .int y_23)]) hx hb dX2_reaches_179 hl (by decide) rfl (fun ls hl => ?_)
                              refine lv_aload_n hx hb dX2_reaches_181 rfl (lv_at hl 5 rfl) ?_
                              refine lv_iload hx hb dX2_reaches_182 (lv_at hl 0 rfl) ?_
                              refine lv_iload_n hx hb dX2_reaches_184 rfl (lv_at hl 7 rfl) ?_
                              refine lv_aload_n hx hb dX2_reaches_185 rfl (lv_at hl 5 rfl) ?_
                              refine zg_2_12 C hs hP ha0 hk0 wf_X2_74 dX2_reaches_186 ?_
                              refine lv_isub hx hb dX2_reaches_189 ?_
                              refine lv_topi (fun x_125 ex_125 => ?_)
                              refine lv_iload hx hb dX2_reaches_190 (lv_at hl 1 rfl) ?_
                              refine lv_iadd hx hb dX2_reaches_192 ?_
                              refine lv_topi (fun x_126 ex_126 => ?_)
                              refine lv_iload_n hx hb dX2_reaches_193 rfl (lv_at hl 8 rfl) ?_
                              refine lv_iconst (v := 1) hx hb dX2_reaches_194 (by decide) ?_
                              refine lv_iadd hx hb dX2_reaches_195 ?_
                              refine lv_topi (fun x_127 ex_127 => ?_)
                              have g_128 := z_rng x_124
                              have g_129 := z_rng x2
                              have g_130 := z_rng (vi_124 a0 12)
                              obtain ⟨f_125, l_125, u_125⟩ := z_sub ex_125 rfl rfl
                              have g_131 := z_rng (vi_99 a0 12)
                              obtain ⟨f_126, l_126, u_126⟩ := z_add ex_126 rfl rfl
                              have g_132 := z_rng x3
                              obtain ⟨f_127, l_127, u_127⟩ := z_add ex_127 rfl ti_1
                              have hq_133 : 0 ≤ x_127.toInt := by first | assumption | omega
                              have hk1_133 : (16 - x_127.toInt).toNat ≤ k - 1 ∧ k - 1 < k := by omega
                              refine zcI (zrV (As := [.int x_124, .int x_126, .int x_127]) (b := a0) (rest := []) C hs hP hS (ih (k - 1) hk1_133.2 vi_124 va_124 vg hI a0 ha0 hk0 x_124 x_126 x_127 hq_133 hk1_133.1) m_X2_reaches wm_X2_131 (zrecv hs hP ha0 (zF_2 hk0) rfl) ⟨by omega, by omega⟩ hl.1 (Nat.le_of_ble_eq_true rfl) dX2_reaches_196) hS (fun x_135 V_135 H locs p_135 hP hS => ?_)
                              obtain ⟨vi_135, va_135, vg_135⟩ := V_135
                              obtain ⟨hI, hg_135, hb_135⟩ := p_135
                              try dsimp only at hI hg_135
                              replace hg_135 := hg_135.symm
                              subst hg_135
                              refine lv_istore (lv' := [(9, .int x_135), (13, .int x_124), (12, .int (vi_99 a0 12)), (11, .int y_36), (10, .int (vi (zr K (zr K a0 4) x1.toNatClampNeg) 1)), (0, .ref a0), (1, .int x1), (2, .int x2), (3, .int x3), (4, .int x_14), (5, .int x_15), (6, .int x_16), (7, .int x_17), (8, .int y_23)]) hx hb dX2_reaches_199 hl (by decide) rfl (fun ls hl => ?_)
                              refine lv_aload_n hx hb dX2_reaches_201 rfl (lv_at hl 5 rfl) ?_
                              refine lv_iload_n hx hb dX2_reaches_202 rfl (lv_at hl 6 rfl) ?_
                              refine lv_iload hx hb dX2_reaches_203 (lv_at hl 3 rfl) ?_
                              refine lv_iload hx hb dX2_reaches_205 (lv_at hl 2 rfl) ?_
                              refine zcV (zrV (As := [.int x1, .int y_36, .int (vi_99 a0 12)]) (b := a0) (rest := []) C hs hP hS (c_X2_back l D K hO vi_135 va_135 vg hI a0 ha0 hk0 x1 y_36 (vi_99 a0 12)) m_X2_back wm_X2_145 (zrecv hs hP ha0 (zF_2 hk0) rfl) ⟨by omega, by omega⟩ hl.1 (Nat.le_of_ble_eq_true rfl) dX2_reaches_207) hS (fun V_136 H locs p_136 hP hS => ?_)
                              obtain ⟨vi_136, va_136, vg_136⟩ := V_136
                              obtain ⟨hI, hg_136⟩ := p_136
                              try dsimp only at hI hg_136
                              replace hg_136 := hg_136.symm
                              subst hg_136
                              exact J_210_115 vi_136 va_136 _ _ x_135 _ hb_135 hI hP hS (lv_sub hl [5, 6, 7, 8, 9, 10, 11, 12, 13, 0, 4, 3] rfl)
                    have g_137 := z_rng y_27
                    have g_138 := z_rng x_7
                    have g_139 := z_rng x_4
                    have g_140 := z_rng x3
                    have g_141 := z_rng x_17
                    have g_142 := z_rng x_16
                    have g_143 := z_rng x2
                    exact L_142_38 _ vi va _ _ 0 y_27 _ (Nat.lt_succ_self _) hb_y_27 (by simp only [ti_0]; omega) hI hP hS (lv_sub hl [0, 1, 2, 3, 4, 5, 6, 7, 8, 9, 10, 11] rfl)
                  refine bz_ne (tgt := 125) hx hb rfl dX2_reaches_118 (by decide) (fun c_26 => ?_) (fun c_26 => ?_)
                  · skip
                    refine lv_iconst (v := 0) hx hb dX2_reaches_125 (by decide) ?_
                    exact J_126_28 0 _ (Or.inl rfl) (lv_sub hl [1, 2, 3, 4, 5, 6, 7, 8, 0] rfl)
                  · skip
                    refine lv_iconst (v := 1) hx hb dX2_reaches_121 (by decide) ?_
                    refine lv_goto (tgt := 126) hx hb dX2_reaches_122 (by decide) ?_
                    exact J_126_28 1 _ (Or.inr rfl) (lv_sub hl [1, 2, 3, 4, 5, 6, 7, 8, 0] rfl)
                refine bi_ne (tgt := 113) hx hb rfl rfl dX2_reaches_106 (by decide) (fun c_22 => ?_) (fun c_22 => ?_)
                · skip
                  refine lv_iconst (v := 0) hx hb dX2_reaches_113 (by decide) ?_
                  exact J_114_24 0 _ (Or.inl rfl) (lv_sub hl [4, 5, 6, 7, 3, 2, 1, 0] rfl)
                · skip
                  refine lv_iconst (v := 1) hx hb dX2_reaches_109 (by decide) ?_
                  refine lv_goto (tgt := 114) hx hb dX2_reaches_110 (by decide) ?_
                  exact J_114_24 1 _ (Or.inr rfl) (lv_sub hl [4, 5, 6, 7, 3, 2, 1, 0] rfl)
              · skip
                refine lv_iload_n hx hb dX2_reaches_87 rfl (lv_at hl 6 rfl) ?_
                refine lv_iload hx hb dX2_reaches_88 (lv_at hl 1 rfl) ?_
                refine bi_gt (tgt := 97) hx hb rfl rfl dX2_reaches_90 (by decide) (fun c_144 => ?_) (fun c_144 => ?_)
                · skip
                  refine lv_iconst (v := 0) hx hb dX2_reaches_97 (by decide) ?_
                  exact zaZ hQ hx hb hr hlk hP hS (Or.inl rfl) ⟨hI, rfl, (Or.inl rfl)⟩ dX2_reaches_98
                · skip
                  refine lv_iconst (v := 1) hx hb dX2_reaches_93 (by decide) ?_
                  refine lv_goto (tgt := 98) hx hb dX2_reaches_94 (by decide) ?_
                  exact zaZ hQ hx hb hr hlk hP hS (Or.inr rfl) ⟨hI, rfl, (Or.inr rfl)⟩ dX2_reaches_98
theorem c_X2_reaches (l : Launch) (D : va_G) (K : zK) (hO : zOk K) (vi va : Nat → Nat → Int32) (vg : Nat → Nat → Option Nat) (hI : zI K (vi, va, vg)) (a0 : Nat) (ha0 : a0 ∈ zl K) (hk0 : zk K a0 = 2) (x1 : Int32) (x2 : Int32) (x3 : Int32) (hp0 : 0 ≤ x3.toInt) : Met l yX2_reaches (zc yX2_reaches cX2_reaches 14 (some .boolean)) (rmd 20) (va_Pc [.ref a0, .int x1, .int x2, .int x3] (zB D K (vi, va, vg))) (zQi D K (fun r V' => zI K V' ∧ V'.2.2 = vg ∧ (r = 0 ∨ r = 1))) 0 0 (zA K) := c_X2_reaches_k l D K hO 16 vi va vg hI a0 ha0 hk0 x1 x2 x3 hp0 (by omega)
set_option maxHeartbeats 4000000 in
set_option maxRecDepth 100000 in
theorem c_X2_bestFrom (l : Launch) (D : va_G) (K : zK) (hO : zOk K) (vi va : Nat → Nat → Int32) (vg : Nat → Nat → Option Nat) (hI : zI K (vi, va, vg)) (a0 : Nat) (ha0 : a0 ∈ zl K) (hk0 : zk K a0 = 2) (x1 : Int32) (x2 : Int32) (hp0 : 0 ≤ x2.toInt) : Met l yX2_bestFrom (zc yX2_bestFrom cX2_bestFrom 4 (some .int)) (rmd 21) (va_Pc [.ref a0, .int x1, .int x2] (zB D K (vi, va, vg))) (zQi D K (fun r V' => zI K V' ∧ V'.2.2 = vg)) 0 0 (zA K) := by
  refine zin (by decide) (Nat.le_of_ble_eq_true rfl) ?_
  intro p e s m args below meth c ls Q hQ C hr hlk hP hs hl
  have C : CallFix p m c cX2_bestFrom 4 s args zw RX2 := C
  obtain ⟨hx, hb, hml, hown, hts⟩ := id C
  have hS : va_S (zA K) s.heap s.heap [] := va_S.rf
  have hl : lv_has ls 4 [(0, .ref a0), (1, .int x1), (2, .int x2)] := hl
  refine lv_aload_n hx hb dX2_bestFrom_0 rfl (lv_at hl 0 rfl) ?_
  refine zg_2_10 C hs hP ha0 hk0 wf_X2_77 dX2_bestFrom_1 ?_
  refine lv_aload_n hx hb dX2_bestFrom_4 rfl (lv_at hl 0 rfl) ?_
  refine zg_2_11 C hs hP ha0 hk0 wf_X2_71 dX2_bestFrom_5 ?_
  have hv_1 : 0 ≤ (vi a0 11).toInt ∧ (vi a0 11).toInt ≤ 4 := hI.2.1 _ ha0 hk0
  refine lv_isub hx hb dX2_bestFrom_8 ?_
  refine lv_topi (fun x_2 ex_2 => ?_)
  refine lv_istore_n (lv' := [(3, .int x_2), (0, .ref a0), (1, .int x1), (2, .int x2)]) hx hb dX2_bestFrom_9 rfl hl (by decide) rfl (fun ls hl => ?_)
  have L_10_4 : ∀ (n_4 : Nat) (vi_5 : Nat → Nat → Int32) (va_5 : Nat → Nat → Int32) (H : Heap) (locs : List Loc) (y_3 : Int32) (ls : Array Slot), (y_3.toInt).toNat < n_4 → zI K (vi_5, va_5, vg) → va_P D vwCl (zW K (vi_5, va_5, vg)) H → va_S (zA K) s.heap H locs → lv_has ls 4 [(3, .int y_3), (0, .ref a0), (1, .int x1), (2, .int x2)] → W p l e (rmd 21) s m args below meth c H locs 0 0 Q (F0 m 10 ls []) := by
    intro n_4
    induction n_4 with
    | zero => intro vi_5 va_5 H locs y_3 ls hm_4; exact absurd hm_4 (Nat.not_lt_zero _)
    | succ n_4 ih_4 =>
      intro vi_5 va_5 H locs y_3 ls hm_4 hI hP hS hl
      refine lv_iload_n hx hb dX2_bestFrom_10 rfl (lv_at hl 0 rfl) ?_
      refine bz_le (tgt := 30) hx hb rfl dX2_bestFrom_11 (by decide) (fun c_7 => ?_) (fun c_7 => ?_)
      · skip
        refine lv_iload_n hx hb dX2_bestFrom_30 rfl (lv_at hl 0 rfl) ?_
        exact zaI hQ hx hb hr hlk hP hS ⟨hI, rfl⟩ dX2_bestFrom_31
      · skip
        refine lv_aload_n hx hb dX2_bestFrom_14 rfl (lv_at hl 1 rfl) ?_
        refine lv_iload_n hx hb dX2_bestFrom_15 rfl (lv_at hl 2 rfl) ?_
        refine lv_iload_n hx hb dX2_bestFrom_16 rfl (lv_at hl 0 rfl) ?_
        refine lv_iload_n hx hb dX2_bestFrom_17 rfl (lv_at hl 3 rfl) ?_
        have g_8 := z_rng x1
        have g_9 := z_rng y_3
        have g_10 := z_rng x2
        have hq_11 : 0 ≤ x2.toInt := by first | assumption | omega
        refine zcI (zrV (As := [.int x1, .int y_3, .int x2]) (b := a0) (rest := []) C hs hP hS (c_X2_reaches l D K hO vi_5 va_5 vg hI a0 ha0 hk0 x1 y_3 x2 hq_11) m_X2_reaches wm_X2_131 (zrecv hs hP ha0 (zF_2 hk0) rfl) ⟨by decide, by decide⟩ hl.1 (Nat.le_of_ble_eq_true rfl) dX2_bestFrom_18) hS (fun x_12 V_12 H locs p_12 hP hS => ?_)
        obtain ⟨vi_12, va_12, vg_12⟩ := V_12
        obtain ⟨hI, hg_12, hb_12⟩ := p_12
        try dsimp only at hI hg_12
        replace hg_12 := hg_12.symm
        subst hg_12
        refine bz_ne (tgt := 30) hx hb rfl dX2_bestFrom_21 (by decide) (fun c_13 => ?_) (fun c_13 => ?_)
        · skip
          refine lv_iload_n hx hb dX2_bestFrom_30 rfl (lv_at hl 0 rfl) ?_
          exact zaI hQ hx hb hr hlk hP hS ⟨hI, rfl⟩ dX2_bestFrom_31
        · skip
          obtain ⟨x_14, ex_14⟩ : ∃ y : Int32, y = y_3 + (-1) := ⟨_, rfl⟩
          refine lv_iinc (v := x_14) (lv' := [(3, .int x_14), (0, .ref a0), (1, .int x1), (2, .int x2)]) hx hb dX2_bestFrom_24 hl (k := 0) rfl (by rw [ex_14]; rfl) (by decide) rfl (fun ls hl => ?_)
          refine lv_goto (tgt := 10) hx hb dX2_bestFrom_27 (by decide) ?_
          obtain ⟨f_14, l_14, u_14⟩ := z_add ex_14 rfl ti_m1
          have g_15 := z_rng x_12
          exact ih_4 vi_12 va_12 _ _ x_14 _ (by omega) hI hP hS (lv_sub hl [0, 1, 2, 3] rfl)
  have g_16 := z_rng (vi a0 10)
  have g_17 := z_rng (vi a0 11)
  obtain ⟨f_2, l_2, u_2⟩ := z_sub ex_2 rfl rfl
  exact L_10_4 _ vi va _ _ x_2 _ (Nat.lt_succ_self _) hI hP hS (lv_sub hl [0, 1, 2, 3] rfl)
set_option maxHeartbeats 4000000 in
set_option maxRecDepth 100000 in
theorem c_X2_linePlace (l : Launch) (D : va_G) (K : zK) (hO : zOk K) (vi va : Nat → Nat → Int32) (vg : Nat → Nat → Option Nat) (hI : zI K (vi, va, vg)) (a0 : Nat) (ha0 : a0 ∈ zl K) (hk0 : zk K a0 = 2) (x1 : Int32) (x2 : Int32) (x3 : Int32) (hp0 : 0 ≤ x3.toInt ∧ x3.toInt ≤ 16) : Met l yX2_linePlace (zc yX2_linePlace cX2_linePlace 11 (some .int)) (rmd 21) (va_Pc [.ref a0, .int x1, .int x2, .int x3] (zB D K (vi, va, vg))) (zQi D K (fun r V' => zI K V' ∧ V'.2.2 = vg)) 0 0 (zA K) := by
  refine zin (by decide) (Nat.le_of_ble_eq_true rfl) ?_
  intro p e s m args below meth c ls Q hQ C hr hlk hP hs hl
  have C : CallFix p m c cX2_linePlace 11 s args zw RX2 := C
  obtain ⟨hx, hb, hml, hown, hts⟩ := id C
  have hS : va_S (zA K) s.heap s.heap [] := va_S.rf
  have hl : lv_has ls 11 [(0, .ref a0), (1, .int x1), (2, .int x2), (3, .int x3)] := hl
  refine lv_iload_n hx hb dX2_linePlace_0 rfl (lv_at hl 1 rfl) ?_
  refine lv_iconst (v := 1) hx hb dX2_linePlace_1 (by decide) ?_
  refine lv_iand hx hb dX2_linePlace_2 ?_
  refine lv_topi (fun x_1 ex_1 => ?_)
  refine lv_aload_n hx hb dX2_linePlace_3 rfl (lv_at hl 0 rfl) ?_
  refine zg_2_9 C hs hP ha0 hk0 wf_X2_49 dX2_linePlace_4 ?_
  have J_15_4 : ∀ (y_3 : Int32) (ls : Array Slot), (y_3 = 0 ∨ y_3 = 1) → lv_has ls 11 [(0, .ref a0), (1, .int x1), (2, .int x2), (3, .int x3)] → W p l e (rmd 21) s m args below meth c s.heap [] 0 0 Q (F0 m 15 ls [.int y_3]) := by
    intro y_3 ls hb_y_3 hl
    refine lv_istore (lv' := [(4, .int y_3), (0, .ref a0), (1, .int x1), (2, .int x2), (3, .int x3)]) hx hb dX2_linePlace_15 hl (by decide) rfl (fun ls hl => ?_)
    refine lv_aload_n hx hb dX2_linePlace_17 rfl (lv_at hl 1 rfl) ?_
    refine zg_2_4 C hs hP ha0 hk0 wf_X2_32 dX2_linePlace_18 ?_
    have hf_6 := hO.r (j := 4) ha0 hk0 (rfl : zX 2 4 = some (23, 4))
    refine lv_iload_n hx hb dX2_linePlace_21 rfl (lv_at hl 2 rfl) ?_
    refine lv_iconst (v := 3) hx hb dX2_linePlace_22 (by decide) ?_
    refine lv_iand hx hb dX2_linePlace_23 ?_
    refine lv_topi (fun x_7 ex_7 => ?_)
    have f_7 := z_and ex_7 ti_3 (by decide)
    have hin_8 : vp_in x_7 (zn K (zr K a0 4)) := vp_in_iff.mpr (by rw [(hf_6.2.2 (by decide))]; refine ⟨?_, ?_⟩ <;> omega)
    refine zld_23 C hs hP hf_6.1 hf_6.2.1 hin_8 dX2_linePlace_24 ?_
    have hf_9 := zel_23 hO hf_6.1 hf_6.2.1 hin_8
    refine zg_7_1 C hs hP hf_9.1 hf_9.2 wf_X2_88 dX2_linePlace_25 ?_
    refine lv_istore (lv' := [(5, .int (vi (zr K (zr K a0 4) x_7.toNatClampNeg) 1)), (4, .int y_3), (0, .ref a0), (1, .int x1), (2, .int x2), (3, .int x3)]) hx hb dX2_linePlace_28 hl (by decide) rfl (fun ls hl => ?_)
    refine lv_iconst (v := 0) hx hb dX2_linePlace_30 (by decide) ?_
    refine lv_istore (lv' := [(6, .int 0), (5, .int (vi (zr K (zr K a0 4) x_7.toNatClampNeg) 1)), (4, .int y_3), (0, .ref a0), (1, .int x1), (2, .int x2), (3, .int x3)]) hx hb dX2_linePlace_31 hl (by decide) rfl (fun ls hl => ?_)
    have L_33_11 : ∀ (n_11 : Nat) (vi_12 : Nat → Nat → Int32) (va_12 : Nat → Nat → Int32) (H : Heap) (locs : List Loc) (y_10 : Int32) (ls : Array Slot), (2147483648 - y_10.toInt).toNat < n_11 → 0 ≤ y_10.toInt → zI K (vi_12, va_12, vg) → va_P D vwCl (zW K (vi_12, va_12, vg)) H → va_S (zA K) s.heap H locs → lv_has ls 11 [(6, .int y_10), (5, .int (vi (zr K (zr K a0 4) x_7.toNatClampNeg) 1)), (4, .int y_3), (0, .ref a0), (1, .int x1), (2, .int x2), (3, .int x3)] → W p l e (rmd 21) s m args below meth c H locs 0 0 Q (F0 m 33 ls []) := by
      intro n_11
      induction n_11 with
      | zero => intro vi_12 va_12 H locs y_10 ls hm_11; exact absurd hm_11 (Nat.not_lt_zero _)
      | succ n_11 ih_11 =>
        intro vi_12 va_12 H locs y_10 ls hm_11 iv_12_0 hI hP hS hl
        refine lv_iload hx hb dX2_linePlace_33 (lv_at hl 0 rfl) ?_
        refine lv_iload hx hb dX2_linePlace_35 (lv_at hl 1 rfl) ?_
        refine bi_ge (tgt := 141) hx hb rfl rfl dX2_linePlace_37 (by decide) (fun c_14 => ?_) (fun c_14 => ?_)
        · skip
          refine lv_iconst (v := (-1)) hx hb dX2_linePlace_141 (by decide) ?_
          exact zaI hQ hx hb hr hlk hP hS ⟨hI, rfl⟩ dX2_linePlace_142
        · skip
          refine lv_aload_n hx hb dX2_linePlace_40 rfl (lv_at hl 3 rfl) ?_
          refine lv_iload_n hx hb dX2_linePlace_41 rfl (lv_at hl 4 rfl) ?_
          refine lv_iload hx hb dX2_linePlace_42 (lv_at hl 0 rfl) ?_
          refine zcI (zrV (As := [.int x1, .int y_10]) (b := a0) (rest := []) C hs hP hS (c_X2_lets l D K hO vi_12 va_12 vg hI a0 ha0 hk0 x1 y_10) m_X2_lets wm_X2_141 (zrecv hs hP ha0 (zF_2 hk0) rfl) ⟨by decide, by decide⟩ hl.1 (Nat.le_of_ble_eq_true rfl) dX2_linePlace_44) hS (fun x_15 V_15 H locs p_15 hP hS => ?_)
          obtain ⟨vi_15, va_15, vg_15⟩ := V_15
          obtain ⟨hI, hg_15, hb_15⟩ := p_15
          try dsimp only at hI hg_15
          replace hg_15 := hg_15.symm
          subst hg_15
          refine bz_eq (tgt := 135) hx hb rfl dX2_linePlace_47 (by decide) (fun c_16 => ?_) (fun c_16 => ?_)
          · skip
            obtain ⟨x_17, ex_17⟩ : ∃ y : Int32, y = y_10 + 1 := ⟨_, rfl⟩
            refine lv_iinc (v := x_17) (lv' := [(6, .int x_17), (5, .int (vi (zr K (zr K a0 4) x_7.toNatClampNeg) 1)), (4, .int y_3), (0, .ref a0), (1, .int x1), (2, .int x2), (3, .int x3)]) hx hb dX2_linePlace_135 hl (k := 0) rfl (by rw [ex_17]; rfl) (by decide) rfl (fun ls hl => ?_)
            refine lv_goto (tgt := 33) hx hb dX2_linePlace_138 (by decide) ?_
            have g_18 := z_rng y_10
            obtain ⟨f_17, l_17, u_17⟩ := z_add ex_17 rfl ti_1
            have g_19 := z_rng (vi (zr K (zr K a0 4) x_7.toNatClampNeg) 1)
            have g_20 := z_rng x_15
            exact ih_11 vi_15 va_15 _ _ x_17 _ (by omega) (by omega) hI hP hS (lv_sub hl [0, 1, 2, 3, 4, 5, 6] rfl)
          · skip
            refine lv_aload_n hx hb dX2_linePlace_50 rfl (lv_at hl 3 rfl) ?_
            refine zg_2_12 C hs hP ha0 hk0 wf_X2_74 dX2_linePlace_51 ?_
            refine lv_istore (lv' := [(7, .int (vi_15 a0 12)), (6, .int y_10), (5, .int (vi (zr K (zr K a0 4) x_7.toNatClampNeg) 1)), (4, .int y_3), (0, .ref a0), (1, .int x1), (2, .int x2), (3, .int x3)]) hx hb dX2_linePlace_54 hl (by decide) rfl (fun ls hl => ?_)
            refine lv_aload_n hx hb dX2_linePlace_56 rfl (lv_at hl 4 rfl) ?_
            refine lv_iload_n hx hb dX2_linePlace_57 rfl (lv_at hl 5 rfl) ?_
            refine lv_iload hx hb dX2_linePlace_58 (lv_at hl 1 rfl) ?_
            refine zcI (zrV (As := [.int x1, .int y_10]) (b := a0) (rest := []) C hs hP hS (c_X2_forward l D K hO vi_15 va_15 vg hI a0 ha0 hk0 x1 y_10) m_X2_forward wm_X2_128 (zrecv hs hP ha0 (zF_2 hk0) rfl) ⟨by decide, by decide⟩ hl.1 (Nat.le_of_ble_eq_true rfl) dX2_linePlace_60) hS (fun x_21 V_21 H locs p_21 hP hS => ?_)
            obtain ⟨vi_21, va_21, vg_21⟩ := V_21
            obtain ⟨hI, hg_21⟩ := p_21
            try dsimp only at hI hg_21
            replace hg_21 := hg_21.symm
            subst hg_21
            refine lv_istore (lv' := [(8, .int x_21), (7, .int (vi_15 a0 12)), (6, .int y_10), (5, .int (vi (zr K (zr K a0 4) x_7.toNatClampNeg) 1)), (4, .int y_3), (0, .ref a0), (1, .int x1), (2, .int x2), (3, .int x3)]) hx hb dX2_linePlace_63 hl (by decide) rfl (fun ls hl => ?_)
            refine lv_iload_n hx hb dX2_linePlace_65 rfl (lv_at hl 7 rfl) ?_
            refine lv_aload_n hx hb dX2_linePlace_66 rfl (lv_at hl 5 rfl) ?_
            refine zg_2_12 C hs hP ha0 hk0 wf_X2_74 dX2_linePlace_67 ?_
            refine lv_isub hx hb dX2_linePlace_70 ?_
            refine lv_topi (fun x_22 ex_22 => ?_)
            refine lv_iload hx hb dX2_linePlace_71 (lv_at hl 1 rfl) ?_
            refine lv_iadd hx hb dX2_linePlace_73 ?_
            refine lv_topi (fun x_23 ex_23 => ?_)
            refine lv_istore (lv' := [(9, .int x_23), (8, .int x_21), (7, .int (vi_15 a0 12)), (6, .int y_10), (5, .int (vi (zr K (zr K a0 4) x_7.toNatClampNeg) 1)), (4, .int y_3), (0, .ref a0), (1, .int x1), (2, .int x2), (3, .int x3)]) hx hb dX2_linePlace_74 hl (by decide) rfl (fun ls hl => ?_)
            refine lv_iload hx hb dX2_linePlace_76 (lv_at hl 5 rfl) ?_
            have J_116_44 : ∀ (vi_45 : Nat → Nat → Int32) (va_45 : Nat → Nat → Int32) (H : Heap) (locs : List Loc) (y_43 : Int32) (ls : Array Slot), (y_43 = 0 ∨ y_43 = 1) → zI K (vi_45, va_45, vg) → va_P D vwCl (zW K (vi_45, va_45, vg)) H → va_S (zA K) s.heap H locs → lv_has ls 11 [(0, .ref a0), (1, .int x1), (2, .int x2), (3, .int x3), (4, .int y_3), (5, .int (vi (zr K (zr K a0 4) x_7.toNatClampNeg) 1)), (6, .int y_10), (7, .int (vi_15 a0 12)), (8, .int x_21), (9, .int x_23)] → W p l e (rmd 21) s m args below meth c H locs 0 0 Q (F0 m 116 ls [.int y_43]) := by
              intro vi_45 va_45 H locs y_43 ls hb_y_43 hI hP hS hl
              refine lv_istore (lv' := [(10, .int y_43), (0, .ref a0), (1, .int x1), (2, .int x2), (3, .int x3), (4, .int y_3), (5, .int (vi (zr K (zr K a0 4) x_7.toNatClampNeg) 1)), (6, .int y_10), (7, .int (vi_15 a0 12)), (8, .int x_21), (9, .int x_23)]) hx hb dX2_linePlace_116 hl (by decide) rfl (fun ls hl => ?_)
              refine lv_aload_n hx hb dX2_linePlace_118 rfl (lv_at hl 1 rfl) ?_
              refine lv_iload_n hx hb dX2_linePlace_119 rfl (lv_at hl 2 rfl) ?_
              refine lv_iload hx hb dX2_linePlace_120 (lv_at hl 7 rfl) ?_
              refine lv_iload hx hb dX2_linePlace_122 (lv_at hl 8 rfl) ?_
              refine zcV (zrV (As := [.int x1, .int y_10, .int (vi_15 a0 12)]) (b := a0) (rest := []) C hs hP hS (c_X2_back l D K hO vi_45 va_45 vg hI a0 ha0 hk0 x1 y_10 (vi_15 a0 12)) m_X2_back wm_X2_145 (zrecv hs hP ha0 (zF_2 hk0) rfl) ⟨by decide, by decide⟩ hl.1 (Nat.le_of_ble_eq_true rfl) dX2_linePlace_124) hS (fun V_47 H locs p_47 hP hS => ?_)
              obtain ⟨vi_47, va_47, vg_47⟩ := V_47
              obtain ⟨hI, hg_47⟩ := p_47
              try dsimp only at hI hg_47
              replace hg_47 := hg_47.symm
              subst hg_47
              refine lv_iload hx hb dX2_linePlace_127 (lv_at hl 0 rfl) ?_
              refine bz_eq (tgt := 135) hx hb rfl dX2_linePlace_129 (by decide) (fun c_48 => ?_) (fun c_48 => ?_)
              · skip
                obtain ⟨x_49, ex_49⟩ : ∃ y : Int32, y = y_10 + 1 := ⟨_, rfl⟩
                refine lv_iinc (v := x_49) (lv' := [(6, .int x_49), (10, .int y_43), (0, .ref a0), (1, .int x1), (2, .int x2), (3, .int x3), (4, .int y_3), (5, .int (vi (zr K (zr K a0 4) x_7.toNatClampNeg) 1)), (7, .int (vi_15 a0 12)), (8, .int x_21), (9, .int x_23)]) hx hb dX2_linePlace_135 hl (k := 7) rfl (by rw [ex_49]; rfl) (by decide) rfl (fun ls hl => ?_)
                refine lv_goto (tgt := 33) hx hb dX2_linePlace_138 (by decide) ?_
                have g_50 := z_rng y_10
                obtain ⟨f_49, l_49, u_49⟩ := z_add ex_49 rfl ti_1
                have g_51 := z_rng x_15
                have g_52 := z_rng (vi (zr K (zr K a0 4) x_7.toNatClampNeg) 1)
                have g_53 := z_rng y_43
                exact ih_11 vi_47 va_47 _ _ x_49 _ (by omega) (by omega) hI hP hS (lv_sub hl [0, 7, 6, 2, 3, 4, 5] rfl)
              · skip
                refine lv_iload hx hb dX2_linePlace_132 (lv_at hl 7 rfl) ?_
                exact zaI hQ hx hb hr hlk hP hS ⟨hI, rfl⟩ dX2_linePlace_134
            refine bz_eq (tgt := 95) hx hb rfl dX2_linePlace_78 (by decide) (fun c_24 => ?_) (fun c_24 => ?_)
            · skip
              refine lv_aload_n hx hb dX2_linePlace_95 rfl (lv_at hl 6 rfl) ?_
              refine lv_iload hx hb dX2_linePlace_96 (lv_at hl 1 rfl) ?_
              refine lv_iload hx hb dX2_linePlace_98 (lv_at hl 0 rfl) ?_
              refine lv_iconst (v := 1) hx hb dX2_linePlace_100 (by decide) ?_
              refine lv_iadd hx hb dX2_linePlace_101 ?_
              refine lv_topi (fun x_54 ex_54 => ?_)
              refine lv_iload_n hx hb dX2_linePlace_102 rfl (lv_at hl 9 rfl) ?_
              refine lv_iconst (v := 1) hx hb dX2_linePlace_103 (by decide) ?_
              refine lv_iadd hx hb dX2_linePlace_104 ?_
              refine lv_topi (fun x_55 ex_55 => ?_)
              have g_56 := z_rng x_21
              have g_57 := z_rng x2
              have g_58 := z_rng (vi_21 a0 12)
              obtain ⟨f_22, l_22, u_22⟩ := z_sub ex_22 rfl rfl
              have g_59 := z_rng (vi_15 a0 12)
              obtain ⟨f_23, l_23, u_23⟩ := z_add ex_23 rfl rfl
              obtain ⟨f_54, l_54, u_54⟩ := z_add ex_54 rfl ti_1
              have g_60 := z_rng x3
              obtain ⟨f_55, l_55, u_55⟩ := z_add ex_55 rfl ti_1
              have hq_61 : 0 ≤ x_55.toInt := by first | assumption | omega
              refine zcI (zrV (As := [.int x_21, .int x_54, .int x_55]) (b := a0) (rest := []) C hs hP hS (c_X2_reaches l D K hO vi_21 va_21 vg hI a0 ha0 hk0 x_21 x_54 x_55 hq_61) m_X2_reaches wm_X2_131 (zrecv hs hP ha0 (zF_2 hk0) rfl) ⟨by decide, by decide⟩ hl.1 (Nat.le_of_ble_eq_true rfl) dX2_linePlace_105) hS (fun x_62 V_62 H locs p_62 hP hS => ?_)
              obtain ⟨vi_62, va_62, vg_62⟩ := V_62
              obtain ⟨hI, hg_62, hb_62⟩ := p_62
              try dsimp only at hI hg_62
              replace hg_62 := hg_62.symm
              subst hg_62
              refine bz_ne (tgt := 115) hx hb rfl dX2_linePlace_108 (by decide) (fun c_63 => ?_) (fun c_63 => ?_)
              · skip
                refine lv_iconst (v := 0) hx hb dX2_linePlace_115 (by decide) ?_
                exact J_116_44 vi_62 va_62 _ _ 0 _ (Or.inl rfl) hI hP hS (lv_sub hl [6, 7, 8, 9, 5, 4, 3, 2, 1, 0] rfl)
              · skip
                refine lv_iconst (v := 1) hx hb dX2_linePlace_111 (by decide) ?_
                refine lv_goto (tgt := 116) hx hb dX2_linePlace_112 (by decide) ?_
                exact J_116_44 vi_62 va_62 _ _ 1 _ (Or.inr rfl) hI hP hS (lv_sub hl [6, 7, 8, 9, 5, 4, 3, 2, 1, 0] rfl)
            · skip
              refine lv_aload_n hx hb dX2_linePlace_81 rfl (lv_at hl 6 rfl) ?_
              refine lv_iload hx hb dX2_linePlace_82 (lv_at hl 1 rfl) ?_
              refine lv_iload hx hb dX2_linePlace_84 (lv_at hl 0 rfl) ?_
              refine lv_iload_n hx hb dX2_linePlace_86 rfl (lv_at hl 9 rfl) ?_
              refine lv_iconst (v := 1) hx hb dX2_linePlace_87 (by decide) ?_
              refine lv_iadd hx hb dX2_linePlace_88 ?_
              refine lv_topi (fun x_64 ex_64 => ?_)
              have g_65 := z_rng x_21
              have g_66 := z_rng x2
              have g_67 := z_rng (vi_21 a0 12)
              obtain ⟨f_22, l_22, u_22⟩ := z_sub ex_22 rfl rfl
              have g_68 := z_rng (vi_15 a0 12)
              obtain ⟨f_23, l_23, u_23⟩ := z_add ex_23 rfl rfl
              have g_69 := z_rng x3
              obtain ⟨f_64, l_64, u_64⟩ := z_add ex_64 rfl ti_1
              have hq_70 : 0 ≤ x_64.toInt := by first | assumption | omega
              refine zcI (zrV (As := [.int x_21, .int x_23, .int x_64]) (b := a0) (rest := []) C hs hP hS (c_X2_reaches l D K hO vi_21 va_21 vg hI a0 ha0 hk0 x_21 x_23 x_64 hq_70) m_X2_reaches wm_X2_131 (zrecv hs hP ha0 (zF_2 hk0) rfl) ⟨by decide, by decide⟩ hl.1 (Nat.le_of_ble_eq_true rfl) dX2_linePlace_89) hS (fun x_71 V_71 H locs p_71 hP hS => ?_)
              obtain ⟨vi_71, va_71, vg_71⟩ := V_71
              obtain ⟨hI, hg_71, hb_71⟩ := p_71
              try dsimp only at hI hg_71
              replace hg_71 := hg_71.symm
              subst hg_71
              refine lv_goto (tgt := 116) hx hb dX2_linePlace_92 (by decide) ?_
              exact J_116_44 vi_71 va_71 _ _ x_71 _ hb_71 hI hP hS (lv_sub hl [6, 7, 8, 9, 5, 4, 3, 2, 1, 0] rfl)
    exact L_33_11 _ vi va _ _ 0 _ (Nat.lt_succ_self _) (by simp only [ti_0]; omega) hI hP hS (lv_sub hl [0, 1, 2, 3, 4, 5, 6] rfl)
  refine bi_ne (tgt := 14) hx hb rfl rfl dX2_linePlace_7 (by decide) (fun c_2 => ?_) (fun c_2 => ?_)
  · skip
    refine lv_iconst (v := 0) hx hb dX2_linePlace_14 (by decide) ?_
    exact J_15_4 0 _ (Or.inl rfl) (lv_sub hl [0, 1, 2, 3] rfl)
  · skip
    refine lv_iconst (v := 1) hx hb dX2_linePlace_10 (by decide) ?_
    refine lv_goto (tgt := 15) hx hb dX2_linePlace_11 (by decide) ?_
    exact J_15_4 1 _ (Or.inr rfl) (lv_sub hl [0, 1, 2, 3] rfl)
set_option maxHeartbeats 4000000 in
set_option maxRecDepth 100000 in
theorem c_X2_bestOf (l : Launch) (D : va_G) (K : zK) (hO : zOk K) (vi va : Nat → Nat → Int32) (vg : Nat → Nat → Option Nat) (hI : zI K (vi, va, vg)) (a0 : Nat) (ha0 : a0 ∈ zl K) (hk0 : zk K a0 = 2) (a1 : Nat) (ha1 : a1 ∈ zl K) (hk1 : zk K a1 = 8) (x2 : Int32) : Met l yX2_bestOf (zc yX2_bestOf cX2_bestOf 3 (some .int)) (rmd 22) (va_Pc [.ref a0, .ref a1, .int x2] (zB D K (vi, va, vg))) (zQi D K (fun r V' => zI K V')) 0 0 (zA K) := by
  refine zin (by decide) (Nat.le_of_ble_eq_true rfl) ?_
  intro p e s m args below meth c ls Q hQ C hr hlk hP hs hl
  have C : CallFix p m c cX2_bestOf 3 s args zw RX2 := C
  obtain ⟨hx, hb, hml, hown, hts⟩ := id C
  have hS : va_S (zA K) s.heap s.heap [] := va_S.rf
  have hl : lv_has ls 3 [(0, .ref a0), (1, .ref a1), (2, .int x2)] := hl
  refine lv_aload_n hx hb dX2_bestOf_0 rfl (lv_at hl 0 rfl) ?_
  refine lv_aload_n hx hb dX2_bestOf_1 rfl (lv_at hl 1 rfl) ?_
  refine lv_iload_n hx hb dX2_bestOf_2 rfl (lv_at hl 2 rfl) ?_
  refine zcV (zrV (As := [.ref a1, .int x2]) (b := a0) (rest := []) C hs hP hS (c_X2_begin l D K hO vi va vg hI a0 ha0 hk0 a1 ha1 hk1 x2) m_X2_begin wm_X2_104 (zrecv hs hP ha0 (zF_2 hk0) rfl) ⟨by decide, by decide⟩ hl.1 (Nat.le_of_ble_eq_true rfl) dX2_bestOf_3) hS (fun V_1 H locs p_1 hP hS => ?_)
  obtain ⟨vi_1, va_1, vg_1⟩ := V_1
  have hI := p_1
  try dsimp only at hI
  refine lv_aload_n hx hb dX2_bestOf_6 rfl (lv_at hl 0 rfl) ?_
  refine lv_aload_n hx hb dX2_bestOf_7 rfl (lv_at hl 1 rfl) ?_
  refine zg_8_13 C hs hP ha1 hk1 wf_X2_108 dX2_bestOf_8 ?_
  have hf_2 := hO.r (j := 13) ha1 hk1 (rfl : zX 8 13 = some (1, 0))
  refine zg_1_2 C hs hP hf_2.1 hf_2.2.1 wf_X2_112 dX2_bestOf_11 ?_
  refine lv_iconst (v := 0) hx hb dX2_bestOf_14 (by decide) ?_
  have g_3 := z_rng (vi_1 (zr K a1 13) 2)
  have hq_4 : 0 ≤ (0 : Int32).toInt := by (try simp only [ti_0]); first | assumption | omega
  refine zcI (zrV (As := [.int (vi_1 (zr K a1 13) 2), .int 0]) (b := a0) (rest := []) C hs hP hS (c_X2_bestFrom l D K hO vi_1 va_1 vg_1 hI a0 ha0 hk0 (vi_1 (zr K a1 13) 2) 0 hq_4) m_X2_bestFrom wm_X2_117 (zrecv hs hP ha0 (zF_2 hk0) rfl) ⟨by decide, by decide⟩ hl.1 (Nat.le_of_ble_eq_true rfl) dX2_bestOf_15) hS (fun x_5 V_5 H locs p_5 hP hS => ?_)
  obtain ⟨vi_5, va_5, vg_5⟩ := V_5
  obtain ⟨hI, hg_5⟩ := p_5
  try dsimp only at hI hg_5
  replace hg_5 := hg_5.symm
  subst hg_5
  exact zaI hQ hx hb hr hlk hP hS hI dX2_bestOf_18
set_option maxHeartbeats 4000000 in
set_option maxRecDepth 100000 in
theorem c_X2_lineCard (l : Launch) (D : va_G) (K : zK) (hO : zOk K) (vi va : Nat → Nat → Int32) (vg : Nat → Nat → Option Nat) (hI : zI K (vi, va, vg)) (a0 : Nat) (ha0 : a0 ∈ zl K) (hk0 : zk K a0 = 2) (a1 : Nat) (ha1 : a1 ∈ zl K) (hk1 : zk K a1 = 8) (x2 : Int32) (x3 : Int32) : Met l yX2_lineCard (zc yX2_lineCard cX2_lineCard 8 (some .int)) (rmd 22) (va_Pc [.ref a0, .ref a1, .int x2, .int x3] (zB D K (vi, va, vg))) (zQi D K (fun r V' => zI K V')) 0 0 (zA K) := by
  refine zin (by decide) (Nat.le_of_ble_eq_true rfl) ?_
  intro p e s m args below meth c ls Q hQ C hr hlk hP hs hl
  have C : CallFix p m c cX2_lineCard 8 s args zw RX2 := C
  obtain ⟨hx, hb, hml, hown, hts⟩ := id C
  have hS : va_S (zA K) s.heap s.heap [] := va_S.rf
  have hl : lv_has ls 8 [(0, .ref a0), (1, .ref a1), (2, .int x2), (3, .int x3)] := hl
  refine lv_aload_n hx hb dX2_lineCard_0 rfl (lv_at hl 0 rfl) ?_
  refine lv_aload_n hx hb dX2_lineCard_1 rfl (lv_at hl 1 rfl) ?_
  refine lv_iload_n hx hb dX2_lineCard_2 rfl (lv_at hl 2 rfl) ?_
  refine zcV (zrV (As := [.ref a1, .int x2]) (b := a0) (rest := []) C hs hP hS (c_X2_begin l D K hO vi va vg hI a0 ha0 hk0 a1 ha1 hk1 x2) m_X2_begin wm_X2_104 (zrecv hs hP ha0 (zF_2 hk0) rfl) ⟨by decide, by decide⟩ hl.1 (Nat.le_of_ble_eq_true rfl) dX2_lineCard_3) hS (fun V_1 H locs p_1 hP hS => ?_)
  obtain ⟨vi_1, va_1, vg_1⟩ := V_1
  have hI := p_1
  try dsimp only at hI
  refine lv_aload_n hx hb dX2_lineCard_6 rfl (lv_at hl 1 rfl) ?_
  refine zg_8_13 C hs hP ha1 hk1 wf_X2_108 dX2_lineCard_7 ?_
  have hf_2 := hO.r (j := 13) ha1 hk1 (rfl : zX 8 13 = some (1, 0))
  refine zg_1_2 C hs hP hf_2.1 hf_2.2.1 wf_X2_112 dX2_lineCard_10 ?_
  refine lv_istore (lv' := [(4, .int (vi_1 (zr K a1 13) 2)), (0, .ref a0), (1, .ref a1), (2, .int x2), (3, .int x3)]) hx hb dX2_lineCard_13 hl (by decide) rfl (fun ls hl => ?_)
  refine lv_aload_n hx hb dX2_lineCard_15 rfl (lv_at hl 1 rfl) ?_
  refine lv_iload hx hb dX2_lineCard_16 (lv_at hl 0 rfl) ?_
  refine lv_iconst (v := 0) hx hb dX2_lineCard_18 (by decide) ?_
  have g_3 := z_rng (vi_1 (zr K a1 13) 2)
  have hq_4 : 0 ≤ (0 : Int32).toInt := by (try simp only [ti_0]); first | assumption | omega
  refine zcI (zrV (As := [.int (vi_1 (zr K a1 13) 2), .int 0]) (b := a0) (rest := []) C hs hP hS (c_X2_bestFrom l D K hO vi_1 va_1 vg_1 hI a0 ha0 hk0 (vi_1 (zr K a1 13) 2) 0 hq_4) m_X2_bestFrom wm_X2_117 (zrecv hs hP ha0 (zF_2 hk0) rfl) ⟨by decide, by decide⟩ hl.1 (Nat.le_of_ble_eq_true rfl) dX2_lineCard_19) hS (fun x_5 V_5 H locs p_5 hP hS => ?_)
  obtain ⟨vi_5, va_5, vg_5⟩ := V_5
  obtain ⟨hI, hg_5⟩ := p_5
  try dsimp only at hI hg_5
  replace hg_5 := hg_5.symm
  subst hg_5
  refine lv_istore (lv' := [(5, .int x_5), (4, .int (vi_1 (zr K a1 13) 2)), (0, .ref a0), (1, .ref a1), (2, .int x2), (3, .int x3)]) hx hb dX2_lineCard_22 hl (by decide) rfl (fun ls hl => ?_)
  refine lv_iconst (v := 0) hx hb dX2_lineCard_24 (by decide) ?_
  refine lv_istore (lv' := [(6, .int 0), (5, .int x_5), (4, .int (vi_1 (zr K a1 13) 2)), (0, .ref a0), (1, .ref a1), (2, .int x2), (3, .int x3)]) hx hb dX2_lineCard_25 hl (by decide) rfl (fun ls hl => ?_)
  have L_27_8 : ∀ (n_8 : Nat) (vi_9 : Nat → Nat → Int32) (va_9 : Nat → Nat → Int32) (H : Heap) (locs : List Loc) (y_6 : Int32) (y_7 : Int32) (ls : Array Slot), (2147483648 - y_6.toInt).toNat < n_8 → 0 ≤ y_6.toInt → zI K (vi_9, va_9, vg_1) → va_P D vwCl (zW K (vi_9, va_9, vg_1)) H → va_S (zA K) s.heap H locs → lv_has ls 8 [(6, .int y_6), (5, .int x_5), (4, .int y_7), (0, .ref a0), (1, .ref a1), (2, .int x2), (3, .int x3)] → W p l e (rmd 22) s m args below meth c H locs 0 0 Q (F0 m 27 ls []) := by
    intro n_8
    induction n_8 with
    | zero => intro vi_9 va_9 H locs y_6 y_7 ls hm_8; exact absurd hm_8 (Nat.not_lt_zero _)
    | succ n_8 ih_8 =>
      intro vi_9 va_9 H locs y_6 y_7 ls hm_8 iv_9_0 hI hP hS hl
      refine lv_iload hx hb dX2_lineCard_27 (lv_at hl 0 rfl) ?_
      refine lv_bipush (v := 16) hx hb dX2_lineCard_29 (by decide) ?_
      refine bi_ge (tgt := 94) hx hb rfl ti_16 dX2_lineCard_31 (by decide) (fun c_11 => ?_) (fun c_11 => ?_)
      · skip
        refine lv_iconst (v := (-1)) hx hb dX2_lineCard_94 (by decide) ?_
        exact zaI hQ hx hb hr hlk hP hS hI dX2_lineCard_95
      · skip
        refine lv_iload hx hb dX2_lineCard_34 (lv_at hl 2 rfl) ?_
        refine zcS (zrSN (As := [.int y_7]) (rest := []) C hs hP hS (c_X11_isSeat l D K hO vi_9 va_9 vg_1 hI y_7) m_X11_isSeat (List.mem_of_getElem? (l := nw_M) (i := 7) rfl) ⟨by decide, by decide⟩ hl.1 (Nat.le_of_ble_eq_true rfl) dX2_lineCard_36) (fun x_12 p_12 => ?_)
        have pp_12 : (x_12.toInt ≠ 0 → 0 ≤ y_7.toInt ∧ y_7.toInt ≤ 3) := p_12.2
        refine bz_eq (tgt := 94) hx hb rfl dX2_lineCard_39 (by decide) (fun c_13 => ?_) (fun c_13 => ?_)
        · skip
          refine lv_iconst (v := (-1)) hx hb dX2_lineCard_94 (by decide) ?_
          exact zaI hQ hx hb hr hlk hP hS hI dX2_lineCard_95
        · skip
          refine lv_aload_n hx hb dX2_lineCard_42 rfl (lv_at hl 3 rfl) ?_
          refine lv_iload hx hb dX2_lineCard_43 (lv_at hl 2 rfl) ?_
          refine lv_iload hx hb dX2_lineCard_45 (lv_at hl 1 rfl) ?_
          refine lv_aload_n hx hb dX2_lineCard_47 rfl (lv_at hl 3 rfl) ?_
          refine zg_2_12 C hs hP ha0 hk0 wf_X2_74 dX2_lineCard_48 ?_
          refine lv_isub hx hb dX2_lineCard_51 ?_
          refine lv_topi (fun x_14 ex_14 => ?_)
          refine lv_iload hx hb dX2_lineCard_52 (lv_at hl 0 rfl) ?_
          have g_15 := z_rng y_7
          have g_16 := z_rng x_5
          have g_17 := z_rng (vi_9 a0 12)
          obtain ⟨f_14, l_14, u_14⟩ := z_sub ex_14 rfl rfl
          have g_18 := z_rng y_6
          have hq_19 : 0 ≤ y_6.toInt ∧ y_6.toInt ≤ 16 := by first | assumption | omega
          refine zcI (zrV (As := [.int y_7, .int x_14, .int y_6]) (b := a0) (rest := []) C hs hP hS (c_X2_linePlace l D K hO vi_9 va_9 vg_1 hI a0 ha0 hk0 y_7 x_14 y_6 hq_19) m_X2_linePlace wm_X2_124 (zrecv hs hP ha0 (zF_2 hk0) rfl) ⟨by decide, by decide⟩ hl.1 (Nat.le_of_ble_eq_true rfl) dX2_lineCard_54) hS (fun x_20 V_20 H locs p_20 hP hS => ?_)
          obtain ⟨vi_20, va_20, vg_20⟩ := V_20
          obtain ⟨hI, hg_20⟩ := p_20
          try dsimp only at hI hg_20
          replace hg_20 := hg_20.symm
          subst hg_20
          refine lv_istore (lv' := [(7, .int x_20), (6, .int y_6), (5, .int x_5), (4, .int y_7), (0, .ref a0), (1, .ref a1), (2, .int x2), (3, .int x3)]) hx hb dX2_lineCard_57 hl (by decide) rfl (fun ls hl => ?_)
          refine lv_iload hx hb dX2_lineCard_59 (lv_at hl 1 rfl) ?_
          refine lv_iload_n hx hb dX2_lineCard_61 rfl (lv_at hl 7 rfl) ?_
          refine bi_ne (tgt := 78) hx hb rfl rfl dX2_lineCard_62 (by decide) (fun c_21 => ?_) (fun c_21 => ?_)
          · skip
            refine lv_aload_n hx hb dX2_lineCard_78 rfl (lv_at hl 4 rfl) ?_
            refine lv_iload hx hb dX2_lineCard_79 (lv_at hl 3 rfl) ?_
            refine lv_iload hx hb dX2_lineCard_81 (lv_at hl 0 rfl) ?_
            refine zcI (zrV (As := [.int y_7, .int x_20]) (b := a0) (rest := []) C hs hP hS (c_X2_forward l D K hO vi_20 va_20 vg_1 hI a0 ha0 hk0 y_7 x_20) m_X2_forward wm_X2_128 (zrecv hs hP ha0 (zF_2 hk0) rfl) ⟨by decide, by decide⟩ hl.1 (Nat.le_of_ble_eq_true rfl) dX2_lineCard_83) hS (fun x_22 V_22 H locs p_22 hP hS => ?_)
            obtain ⟨vi_22, va_22, vg_22⟩ := V_22
            obtain ⟨hI, hg_22⟩ := p_22
            try dsimp only at hI hg_22
            replace hg_22 := hg_22.symm
            subst hg_22
            refine lv_istore (lv' := [(4, .int x_22), (7, .int x_20), (6, .int y_6), (5, .int x_5), (0, .ref a0), (1, .ref a1), (2, .int x2), (3, .int x3)]) hx hb dX2_lineCard_86 hl (by decide) rfl (fun ls hl => ?_)
            obtain ⟨x_23, ex_23⟩ : ∃ y : Int32, y = y_6 + 1 := ⟨_, rfl⟩
            refine lv_iinc (v := x_23) (lv' := [(6, .int x_23), (4, .int x_22), (7, .int x_20), (5, .int x_5), (0, .ref a0), (1, .ref a1), (2, .int x2), (3, .int x3)]) hx hb dX2_lineCard_88 hl (k := 2) rfl (by rw [ex_23]; rfl) (by decide) rfl (fun ls hl => ?_)
            refine lv_goto (tgt := 27) hx hb dX2_lineCard_91 (by decide) ?_
            obtain ⟨f_23, l_23, u_23⟩ := z_add ex_23 rfl ti_1
            have g_24 := z_rng x_22
            have g_25 := z_rng x3
            have g_26 := z_rng x_12
            exact ih_8 vi_22 va_22 _ _ x_23 x_22 _ (by omega) (by omega) hI hP hS (lv_sub hl [0, 3, 1, 4, 5, 6, 7] rfl)
          · skip
            refine lv_aload_n hx hb dX2_lineCard_65 rfl (lv_at hl 4 rfl) ?_
            refine zg_2_4 C hs hP ha0 hk0 wf_X2_32 dX2_lineCard_66 ?_
            have hf_27 := hO.r (j := 4) ha0 hk0 (rfl : zX 2 4 = some (23, 4))
            refine lv_iload hx hb dX2_lineCard_69 (lv_at hl 3 rfl) ?_
            have hin_28 : vp_in y_7 (zn K (zr K a0 4)) := vp_in_iff.mpr (by rw [(hf_27.2.2 (by decide))]; refine ⟨?_, ?_⟩ <;> omega)
            refine zld_23 C hs hP hf_27.1 hf_27.2.1 hin_28 dX2_lineCard_71 ?_
            have hf_29 := zel_23 hO hf_27.1 hf_27.2.1 hin_28
            refine lv_iload hx hb dX2_lineCard_72 (lv_at hl 0 rfl) ?_
            refine zcS (zrV (As := [.int x_20]) (b := zr K (zr K a0 4) y_7.toNatClampNeg) (rest := []) C hs hP hS (c_X8_at l D K hO vi_20 va_20 vg_1 hI (zr K (zr K a0 4) y_7.toNatClampNeg) hf_29.1 hf_29.2 x_20) m_X8_at wm_X2_97 (zrecv hs hP hf_29.1 (zF_7 hf_29.2) rfl) ⟨by decide, by decide⟩ hl.1 (Nat.le_of_ble_eq_true rfl) dX2_lineCard_74) (fun x_30 p_30 => ?_)
            exact zaI hQ hx hb hr hlk hP hS hI dX2_lineCard_77
  exact L_27_8 _ vi_5 va_5 _ _ 0 (vi_1 (zr K a1 13) 2) _ (Nat.lt_succ_self _) (by simp only [ti_0]; omega) hI hP hS (lv_sub hl [0, 1, 2, 3, 4, 5, 6] rfl)
set_option maxHeartbeats 4000000 in
set_option maxRecDepth 100000 in
theorem c_X2_sureFrom_k (l : Launch) (D : va_G) (K : zK) (hO : zOk K) : ∀ (k : Nat) (vi va : Nat → Nat → Int32) (vg : Nat → Nat → Option Nat) (hI : zI K (vi, va, vg)) (a0 : Nat) (ha0 : a0 ∈ zl K) (hk0 : zk K a0 = 2) (x1 : Int32) (x2 : Int32) (hp0 : 0 ≤ x2.toInt) (hkk : (16 - x2.toInt).toNat ≤ k), Met l yX2_sureFrom (zc yX2_sureFrom cX2_sureFrom 11 (some .int)) (rmd (22 + k)) (va_Pc [.ref a0, .int x1, .int x2] (zB D K (vi, va, vg))) (zQi D K (fun r V' => zI K V' ∧ V'.2.2 = vg)) 0 0 (zA K) := by
  intro k
  induction k using Nat.strongRecOn with
  | ind k ih =>
  intro vi va vg hI a0 ha0 hk0 x1 x2 hp0 hkk
  refine zin (by decide) (Nat.le_of_ble_eq_true rfl) ?_
  intro p e s m args below meth c ls Q hQ C hr hlk hP hs hl
  have C : CallFix p m c cX2_sureFrom 11 s args zw RX2 := C
  obtain ⟨hx, hb, hml, hown, hts⟩ := id C
  have hS : va_S (zA K) s.heap s.heap [] := va_S.rf
  have hl : lv_has ls 11 [(0, .ref a0), (1, .int x1), (2, .int x2)] := hl
  refine lv_iload_n hx hb dX2_sureFrom_0 rfl (lv_at hl 1 rfl) ?_
  refine zcS (zrSN (As := [.int x1]) (rest := []) C hs hP hS (c_X11_isSeat l D K hO vi va vg hI x1) m_X11_isSeat (List.mem_of_getElem? (l := nw_M) (i := 7) rfl) ⟨by omega, by omega⟩ hl.1 (Nat.le_of_ble_eq_true rfl) dX2_sureFrom_1) (fun x_1 p_1 => ?_)
  have pp_1 : (x_1.toInt ≠ 0 → 0 ≤ x1.toInt ∧ x1.toInt ≤ 3) := p_1.2
  refine bz_eq (tgt := 13) hx hb rfl dX2_sureFrom_4 (by decide) (fun c_2 => ?_) (fun c_2 => ?_)
  · skip
    refine lv_iconst (v := 0) hx hb dX2_sureFrom_13 (by decide) ?_
    exact zaI hQ hx hb hr hlk hP hS ⟨hI, rfl⟩ dX2_sureFrom_14
  · skip
    refine lv_iload_n hx hb dX2_sureFrom_7 rfl (lv_at hl 2 rfl) ?_
    refine lv_bipush (v := 16) hx hb dX2_sureFrom_8 (by decide) ?_
    refine bi_lt (tgt := 15) hx hb rfl ti_16 dX2_sureFrom_10 (by decide) (fun c_3 => ?_) (fun c_3 => ?_)
    · skip
      refine lv_aload_n hx hb dX2_sureFrom_15 rfl (lv_at hl 0 rfl) ?_
      refine lv_iload_n hx hb dX2_sureFrom_16 rfl (lv_at hl 1 rfl) ?_
      refine zcS (zrV (As := [.int x1]) (b := a0) (rest := []) C hs hP hS (c_X2_keyOf l D K hO vi va vg hI a0 ha0 hk0 x1) m_X2_keyOf wm_X2_135 (zrecv hs hP ha0 (zF_2 hk0) rfl) ⟨by omega, by omega⟩ hl.1 (Nat.le_of_ble_eq_true rfl) dX2_sureFrom_17) (fun x_4 p_4 => ?_)
      have pp_4 : x_4.toInt = -1 ∨ 0 ≤ x_4.toInt ∧ x_4.toInt < 20736 := p_4
      refine lv_istore_n (lv' := [(3, .int x_4), (0, .ref a0), (1, .int x1), (2, .int x2)]) hx hb dX2_sureFrom_20 rfl hl (by decide) rfl (fun ls hl => ?_)
      refine lv_iload_n hx hb dX2_sureFrom_21 rfl (lv_at hl 0 rfl) ?_
      refine lv_iconst (v := (-1)) hx hb dX2_sureFrom_22 (by decide) ?_
      refine bi_eq (tgt := 51) hx hb rfl ti_m1 dX2_sureFrom_23 (by decide) (fun c_5 => ?_) (fun c_5 => ?_)
      · skip
        refine lv_iload_n hx hb dX2_sureFrom_51 rfl (lv_at hl 2 rfl) ?_
        refine lv_iconst (v := 1) hx hb dX2_sureFrom_52 (by decide) ?_
        refine lv_iand hx hb dX2_sureFrom_53 ?_
        refine lv_topi (fun x_6 ex_6 => ?_)
        refine lv_aload_n hx hb dX2_sureFrom_54 rfl (lv_at hl 1 rfl) ?_
        refine zg_2_9 C hs hP ha0 hk0 wf_X2_49 dX2_sureFrom_55 ?_
        have J_66_9 : ∀ (y_8 : Int32) (ls : Array Slot), (y_8 = 0 ∨ y_8 = 1) → lv_has ls 11 [(0, .ref a0), (1, .int x1), (2, .int x2), (3, .int x_4)] → W p l e (rmd (22 + k)) s m args below meth c s.heap [] 0 0 Q (F0 m 66 ls [.int y_8]) := by
          intro y_8 ls hb_y_8 hl
          refine lv_istore (lv' := [(4, .int y_8), (0, .ref a0), (1, .int x1), (2, .int x2), (3, .int x_4)]) hx hb dX2_sureFrom_66 hl (by decide) rfl (fun ls hl => ?_)
          refine lv_iload hx hb dX2_sureFrom_68 (lv_at hl 0 rfl) ?_
          have J_89_20 : ∀ (vi_21 : Nat → Nat → Int32) (va_21 : Nat → Nat → Int32) (H : Heap) (locs : List Loc) (y_19 : Int32) (ls : Array Slot), zI K (vi_21, va_21, vg) → va_P D vwCl (zW K (vi_21, va_21, vg)) H → va_S (zA K) s.heap H locs → lv_has ls 11 [(0, .ref a0), (1, .int x1), (2, .int x2), (3, .int x_4), (4, .int y_8)] → W p l e (rmd (22 + k)) s m args below meth c H locs 0 0 Q (F0 m 89 ls [.int y_19]) := by
            intro vi_21 va_21 H locs y_19 ls hI hP hS hl
            refine lv_istore (lv' := [(5, .int y_19), (0, .ref a0), (1, .int x1), (2, .int x2), (3, .int x_4), (4, .int y_8)]) hx hb dX2_sureFrom_89 hl (by decide) rfl (fun ls hl => ?_)
            refine lv_aload_n hx hb dX2_sureFrom_91 rfl (lv_at hl 1 rfl) ?_
            refine zg_2_10 C hs hP ha0 hk0 wf_X2_77 dX2_sureFrom_92 ?_
            refine lv_aload_n hx hb dX2_sureFrom_95 rfl (lv_at hl 1 rfl) ?_
            refine zg_2_11 C hs hP ha0 hk0 wf_X2_71 dX2_sureFrom_96 ?_
            have hv_23 : 0 ≤ (vi_21 a0 11).toInt ∧ (vi_21 a0 11).toInt ≤ 4 := hI.2.1 _ ha0 hk0
            refine lv_isub hx hb dX2_sureFrom_99 ?_
            refine lv_topi (fun x_24 ex_24 => ?_)
            refine lv_istore (lv' := [(6, .int x_24), (5, .int y_19), (0, .ref a0), (1, .int x1), (2, .int x2), (3, .int x_4), (4, .int y_8)]) hx hb dX2_sureFrom_100 hl (by decide) rfl (fun ls hl => ?_)
            refine lv_aload_n hx hb dX2_sureFrom_102 rfl (lv_at hl 2 rfl) ?_
            refine zg_2_4 C hs hP ha0 hk0 wf_X2_32 dX2_sureFrom_103 ?_
            have hf_25 := hO.r (j := 4) ha0 hk0 (rfl : zX 2 4 = some (23, 4))
            refine lv_iload_n hx hb dX2_sureFrom_106 rfl (lv_at hl 3 rfl) ?_
            have g_27 := z_rng x1
            have hin_26 : vp_in x1 (zn K (zr K a0 4)) := vp_in_iff.mpr (by rw [(hf_25.2.2 (by decide))]; refine ⟨?_, ?_⟩ <;> omega)
            refine zld_23 C hs hP hf_25.1 hf_25.2.1 hin_26 dX2_sureFrom_107 ?_
            have hf_28 := zel_23 hO hf_25.1 hf_25.2.1 hin_26
            refine zg_7_1 C hs hP hf_28.1 hf_28.2 wf_X2_88 dX2_sureFrom_108 ?_
            refine lv_istore (lv' := [(7, .int (vi_21 (zr K (zr K a0 4) x1.toNatClampNeg) 1)), (6, .int x_24), (5, .int y_19), (0, .ref a0), (1, .int x1), (2, .int x2), (3, .int x_4), (4, .int y_8)]) hx hb dX2_sureFrom_111 hl (by decide) rfl (fun ls hl => ?_)
            refine lv_iconst (v := 0) hx hb dX2_sureFrom_113 (by decide) ?_
            refine lv_istore (lv' := [(8, .int 0), (7, .int (vi_21 (zr K (zr K a0 4) x1.toNatClampNeg) 1)), (6, .int x_24), (5, .int y_19), (0, .ref a0), (1, .int x1), (2, .int x2), (3, .int x_4), (4, .int y_8)]) hx hb dX2_sureFrom_114 hl (by decide) rfl (fun ls hl => ?_)
            have L_116_31 : ∀ (n_31 : Nat) (vi_32 : Nat → Nat → Int32) (va_32 : Nat → Nat → Int32) (H : Heap) (locs : List Loc) (y_29 : Int32) (y_30 : Int32) (ls : Array Slot), (2147483648 - y_29.toInt).toNat < n_31 → 0 ≤ y_29.toInt → zI K (vi_32, va_32, vg) → va_P D vwCl (zW K (vi_32, va_32, vg)) H → va_S (zA K) s.heap H locs → lv_has ls 11 [(8, .int y_29), (7, .int (vi_21 (zr K (zr K a0 4) x1.toNatClampNeg) 1)), (6, .int y_30), (5, .int y_19), (0, .ref a0), (1, .int x1), (2, .int x2), (3, .int x_4), (4, .int y_8)] → W p l e (rmd (22 + k)) s m args below meth c H locs 0 0 Q (F0 m 116 ls []) := by
              intro n_31
              induction n_31 with
              | zero => intro vi_32 va_32 H locs y_29 y_30 ls hm_31; exact absurd hm_31 (Nat.not_lt_zero _)
              | succ n_31 ih_31 =>
                intro vi_32 va_32 H locs y_29 y_30 ls hm_31 iv_32_0 hI hP hS hl
                refine lv_iload hx hb dX2_sureFrom_116 (lv_at hl 0 rfl) ?_
                refine lv_iload hx hb dX2_sureFrom_118 (lv_at hl 1 rfl) ?_
                refine bi_ge (tgt := 202) hx hb rfl rfl dX2_sureFrom_120 (by decide) (fun c_34 => ?_) (fun c_34 => ?_)
                · skip
                  refine lv_iload_n hx hb dX2_sureFrom_202 rfl (lv_at hl 7 rfl) ?_
                  refine lv_iconst (v := (-1)) hx hb dX2_sureFrom_203 (by decide) ?_
                  refine bi_eq (tgt := 222) hx hb rfl ti_m1 dX2_sureFrom_204 (by decide) (fun c_93 => ?_) (fun c_93 => ?_)
                  · skip
                    refine lv_iload hx hb dX2_sureFrom_222 (lv_at hl 2 rfl) ?_
                    exact zaI hQ hx hb hr hlk hP hS ⟨hI, rfl⟩ dX2_sureFrom_224
                  · skip
                    refine lv_aload_n hx hb dX2_sureFrom_207 rfl (lv_at hl 4 rfl) ?_
                    refine zg_2_2 C hs hP ha0 hk0 wf_X2_24 dX2_sureFrom_208 ?_
                    have hf_94 := hO.r (j := 2) ha0 hk0 (rfl : zX 2 2 = some (20, 20736))
                    refine lv_iload_n hx hb dX2_sureFrom_211 rfl (lv_at hl 7 rfl) ?_
                    refine lv_aload_n hx hb dX2_sureFrom_212 rfl (lv_at hl 4 rfl) ?_
                    refine zg_2_13 C hs hP ha0 hk0 wf_X2_68 dX2_sureFrom_213 ?_
                    refine lv_iconst (v := 3) hx hb dX2_sureFrom_216 (by decide) ?_
                    refine lv_ishl hx hb dX2_sureFrom_217 ?_
                    refine lv_topi (fun x_95 ex_95 => ?_)
                    refine lv_iload hx hb dX2_sureFrom_218 (lv_at hl 2 rfl) ?_
                    refine lv_ior hx hb dX2_sureFrom_220 ?_
                    refine lv_topi (fun x_96 ex_96 => ?_)
                    have g_98 := z_rng x_4
                    have hin_97 : vp_in x_4 (zn K (zr K a0 2)) := vp_in_iff.mpr (by rw [(hf_94.2.2 (by decide))]; refine ⟨?_, ?_⟩ <;> omega)
                    refine ks_20 C hO hs hP hS hf_94.1 hf_94.2.1 hI hin_97 dX2_sureFrom_221 (fun va_99 H locs hI hP hS => ?_)
                    refine lv_iload hx hb dX2_sureFrom_222 (lv_at hl 2 rfl) ?_
                    exact zaI hQ hx hb hr hlk hP hS ⟨hI, rfl⟩ dX2_sureFrom_224
                · skip
                  refine lv_iload hx hb dX2_sureFrom_123 (lv_at hl 8 rfl) ?_
                  have J_196_127 : ∀ (vi_128 : Nat → Nat → Int32) (va_128 : Nat → Nat → Int32) (H : Heap) (locs : List Loc) (y_126 : Int32) (ls : Array Slot), zI K (vi_128, va_128, vg) → va_P D vwCl (zW K (vi_128, va_128, vg)) H → va_S (zA K) s.heap H locs → lv_has ls 11 [(0, .ref a0), (1, .int x1), (2, .int x2), (3, .int x_4), (4, .int y_8), (5, .int y_19), (6, .int y_126), (7, .int (vi_21 (zr K (zr K a0 4) x1.toNatClampNeg) 1)), (8, .int y_29)] → W p l e (rmd (22 + k)) s m args below meth c H locs 0 0 Q (F0 m 196 ls []) := by
                    intro vi_128 va_128 H locs y_126 ls hI hP hS hl
                    obtain ⟨x_130, ex_130⟩ : ∃ y : Int32, y = y_29 + 1 := ⟨_, rfl⟩
                    refine lv_iinc (v := x_130) (lv' := [(8, .int x_130), (0, .ref a0), (1, .int x1), (2, .int x2), (3, .int x_4), (4, .int y_8), (5, .int y_19), (6, .int y_126), (7, .int (vi_21 (zr K (zr K a0 4) x1.toNatClampNeg) 1))]) hx hb dX2_sureFrom_196 hl (k := 8) rfl (by rw [ex_130]; rfl) (by decide) rfl (fun ls hl => ?_)
                    refine lv_goto (tgt := 116) hx hb dX2_sureFrom_199 (by decide) ?_
                    have g_131 := z_rng y_29
                    obtain ⟨f_130, l_130, u_130⟩ := z_add ex_130 rfl ti_1
                    have g_132 := z_rng y_126
                    have g_133 := z_rng (vi_21 (zr K (zr K a0 4) x1.toNatClampNeg) 1)
                    exact ih_31 vi_128 va_128 _ _ x_130 y_126 _ (by omega) (by omega) hI hP hS (lv_sub hl [0, 8, 7, 6, 1, 2, 3, 4, 5] rfl)
                  refine bz_eq (tgt := 138) hx hb rfl dX2_sureFrom_125 (by decide) (fun c_100 => ?_) (fun c_100 => ?_)
                  · skip
                    refine lv_aload_n hx hb dX2_sureFrom_138 rfl (lv_at hl 4 rfl) ?_
                    refine lv_iload_n hx hb dX2_sureFrom_139 rfl (lv_at hl 5 rfl) ?_
                    refine lv_iload hx hb dX2_sureFrom_140 (lv_at hl 0 rfl) ?_
                    refine zcI (zrV (As := [.int x1, .int y_29]) (b := a0) (rest := []) C hs hP hS (c_X2_lets l D K hO vi_32 va_32 vg hI a0 ha0 hk0 x1 y_29) m_X2_lets wm_X2_141 (zrecv hs hP ha0 (zF_2 hk0) rfl) ⟨by omega, by omega⟩ hl.1 (Nat.le_of_ble_eq_true rfl) dX2_sureFrom_142) hS (fun x_134 V_134 H locs p_134 hP hS => ?_)
                    obtain ⟨vi_134, va_134, vg_134⟩ := V_134
                    obtain ⟨hI, hg_134, hb_134⟩ := p_134
                    try dsimp only at hI hg_134
                    replace hg_134 := hg_134.symm
                    subst hg_134
                    refine bz_eq (tgt := 196) hx hb rfl dX2_sureFrom_145 (by decide) (fun c_135 => ?_) (fun c_135 => ?_)
                    · skip
                      exact J_196_127 vi_134 va_134 _ _ y_30 _ hI hP hS (lv_sub hl [4, 5, 6, 7, 8, 3, 2, 1, 0] rfl)
                    · skip
                      refine lv_aload_n hx hb dX2_sureFrom_148 rfl (lv_at hl 4 rfl) ?_
                      refine zg_2_12 C hs hP ha0 hk0 wf_X2_74 dX2_sureFrom_149 ?_
                      refine lv_istore (lv' := [(9, .int (vi_134 a0 12)), (8, .int y_29), (7, .int (vi_21 (zr K (zr K a0 4) x1.toNatClampNeg) 1)), (6, .int y_30), (5, .int y_19), (0, .ref a0), (1, .int x1), (2, .int x2), (3, .int x_4), (4, .int y_8)]) hx hb dX2_sureFrom_152 hl (by decide) rfl (fun ls hl => ?_)
                      refine lv_aload_n hx hb dX2_sureFrom_154 rfl (lv_at hl 5 rfl) ?_
                      refine lv_iload_n hx hb dX2_sureFrom_155 rfl (lv_at hl 6 rfl) ?_
                      refine lv_iload hx hb dX2_sureFrom_156 (lv_at hl 1 rfl) ?_
                      refine zcI (zrV (As := [.int x1, .int y_29]) (b := a0) (rest := []) C hs hP hS (c_X2_forward l D K hO vi_134 va_134 vg hI a0 ha0 hk0 x1 y_29) m_X2_forward wm_X2_128 (zrecv hs hP ha0 (zF_2 hk0) rfl) ⟨by omega, by omega⟩ hl.1 (Nat.le_of_ble_eq_true rfl) dX2_sureFrom_158) hS (fun x_136 V_136 H locs p_136 hP hS => ?_)
                      obtain ⟨vi_136, va_136, vg_136⟩ := V_136
                      obtain ⟨hI, hg_136⟩ := p_136
                      try dsimp only at hI hg_136
                      replace hg_136 := hg_136.symm
                      subst hg_136
                      refine lv_istore (lv' := [(10, .int x_136), (9, .int (vi_134 a0 12)), (8, .int y_29), (7, .int (vi_21 (zr K (zr K a0 4) x1.toNatClampNeg) 1)), (6, .int y_30), (5, .int y_19), (0, .ref a0), (1, .int x1), (2, .int x2), (3, .int x_4), (4, .int y_8)]) hx hb dX2_sureFrom_161 hl (by decide) rfl (fun ls hl => ?_)
                      refine lv_iload hx hb dX2_sureFrom_163 (lv_at hl 4 rfl) ?_
                      refine lv_aload_n hx hb dX2_sureFrom_165 rfl (lv_at hl 6 rfl) ?_
                      refine zg_2_12 C hs hP ha0 hk0 wf_X2_74 dX2_sureFrom_166 ?_
                      refine lv_iload hx hb dX2_sureFrom_169 (lv_at hl 1 rfl) ?_
                      refine lv_isub hx hb dX2_sureFrom_171 ?_
                      refine lv_topi (fun x_137 ex_137 => ?_)
                      refine lv_aload_n hx hb dX2_sureFrom_172 rfl (lv_at hl 6 rfl) ?_
                      refine lv_iload hx hb dX2_sureFrom_173 (lv_at hl 0 rfl) ?_
                      refine lv_iload_n hx hb dX2_sureFrom_175 rfl (lv_at hl 8 rfl) ?_
                      refine lv_iconst (v := 1) hx hb dX2_sureFrom_176 (by decide) ?_
                      refine lv_iadd hx hb dX2_sureFrom_177 ?_
                      refine lv_topi (fun x_138 ex_138 => ?_)
                      have g_139 := z_rng x_136
                      have g_140 := z_rng x2
                      obtain ⟨f_138, l_138, u_138⟩ := z_add ex_138 rfl ti_1
                      have hq_141 : 0 ≤ x_138.toInt := by first | assumption | omega
                      have hk1_141 : (16 - x_138.toInt).toNat ≤ k - 1 ∧ k - 1 < k := by omega
                      refine zcI (zrV (As := [.int x_136, .int x_138]) (b := a0) (rest := [.int x_137, .int y_30]) C hs hP hS (ih (k - 1) hk1_141.2 vi_136 va_136 vg hI a0 ha0 hk0 x_136 x_138 hq_141 hk1_141.1) m_X2_sureFrom wm_X2_149 (zrecv hs hP ha0 (zF_2 hk0) rfl) ⟨by omega, by omega⟩ hl.1 (Nat.le_of_ble_eq_true rfl) dX2_sureFrom_178) hS (fun x_143 V_143 H locs p_143 hP hS => ?_)
                      obtain ⟨vi_143, va_143, vg_143⟩ := V_143
                      obtain ⟨hI, hg_143⟩ := p_143
                      try dsimp only at hI hg_143
                      replace hg_143 := hg_143.symm
                      subst hg_143
                      refine lv_iadd hx hb dX2_sureFrom_181 ?_
                      refine lv_topi (fun x_144 ex_144 => ?_)
                      refine va_mmin hx hb (hml.trans hl.1.symm) hown (hts _ wm_X2_152) (hts _ wt_Lib_Math_min_name) (hts _ wn_J9) (hts _ wo_min) (by show 1 ≤ (22 + k); omega) (by show 0 + 13 ≤ 64 * (22 + k); omega) (Nat.zero_le _) (Nat.zero_le _) dX2_sureFrom_182 ?_
                      refine lv_topi (fun x_145 ex_145 => ?_)
                      refine lv_istore (lv' := [(6, .int x_145), (10, .int x_136), (9, .int (vi_134 a0 12)), (8, .int y_29), (7, .int (vi_21 (zr K (zr K a0 4) x1.toNatClampNeg) 1)), (5, .int y_19), (0, .ref a0), (1, .int x1), (2, .int x2), (3, .int x_4), (4, .int y_8)]) hx hb dX2_sureFrom_185 hl (by decide) rfl (fun ls hl => ?_)
                      refine lv_aload_n hx hb dX2_sureFrom_187 rfl (lv_at hl 6 rfl) ?_
                      refine lv_iload_n hx hb dX2_sureFrom_188 rfl (lv_at hl 7 rfl) ?_
                      refine lv_iload hx hb dX2_sureFrom_189 (lv_at hl 3 rfl) ?_
                      refine lv_iload hx hb dX2_sureFrom_191 (lv_at hl 2 rfl) ?_
                      refine zcV (zrV (As := [.int x1, .int y_29, .int (vi_134 a0 12)]) (b := a0) (rest := []) C hs hP hS (c_X2_back l D K hO vi_143 va_143 vg hI a0 ha0 hk0 x1 y_29 (vi_134 a0 12)) m_X2_back wm_X2_145 (zrecv hs hP ha0 (zF_2 hk0) rfl) ⟨by omega, by omega⟩ hl.1 (Nat.le_of_ble_eq_true rfl) dX2_sureFrom_193) hS (fun V_146 H locs p_146 hP hS => ?_)
                      obtain ⟨vi_146, va_146, vg_146⟩ := V_146
                      obtain ⟨hI, hg_146⟩ := p_146
                      try dsimp only at hI hg_146
                      replace hg_146 := hg_146.symm
                      subst hg_146
                      exact J_196_127 vi_146 va_146 _ _ x_145 _ hI hP hS (lv_sub hl [6, 7, 8, 9, 10, 5, 0, 4, 3] rfl)
                  · skip
                    refine lv_iload hx hb dX2_sureFrom_128 (lv_at hl 0 rfl) ?_
                    refine lv_iload hx hb dX2_sureFrom_130 (lv_at hl 3 rfl) ?_
                    refine bi_ne (tgt := 196) hx hb rfl rfl dX2_sureFrom_132 (by decide) (fun c_147 => ?_) (fun c_147 => ?_)
                    · skip
                      exact J_196_127 vi_32 va_32 _ _ y_30 _ hI hP hS (lv_sub hl [4, 5, 6, 7, 8, 3, 2, 1, 0] rfl)
                    · skip
                      refine lv_goto (tgt := 148) hx hb dX2_sureFrom_135 (by decide) ?_
                      refine lv_aload_n hx hb dX2_sureFrom_148 rfl (lv_at hl 4 rfl) ?_
                      refine zg_2_12 C hs hP ha0 hk0 wf_X2_74 dX2_sureFrom_149 ?_
                      refine lv_istore (lv' := [(9, .int (vi_32 a0 12)), (8, .int y_29), (7, .int (vi_21 (zr K (zr K a0 4) x1.toNatClampNeg) 1)), (6, .int y_30), (5, .int y_19), (0, .ref a0), (1, .int x1), (2, .int x2), (3, .int x_4), (4, .int y_8)]) hx hb dX2_sureFrom_152 hl (by decide) rfl (fun ls hl => ?_)
                      refine lv_aload_n hx hb dX2_sureFrom_154 rfl (lv_at hl 5 rfl) ?_
                      refine lv_iload_n hx hb dX2_sureFrom_155 rfl (lv_at hl 6 rfl) ?_
                      refine lv_iload hx hb dX2_sureFrom_156 (lv_at hl 1 rfl) ?_
                      refine zcI (zrV (As := [.int x1, .int y_29]) (b := a0) (rest := []) C hs hP hS (c_X2_forward l D K hO vi_32 va_32 vg hI a0 ha0 hk0 x1 y_29) m_X2_forward wm_X2_128 (zrecv hs hP ha0 (zF_2 hk0) rfl) ⟨by omega, by omega⟩ hl.1 (Nat.le_of_ble_eq_true rfl) dX2_sureFrom_158) hS (fun x_148 V_148 H locs p_148 hP hS => ?_)
                      obtain ⟨vi_148, va_148, vg_148⟩ := V_148
                      obtain ⟨hI, hg_148⟩ := p_148
                      try dsimp only at hI hg_148
                      replace hg_148 := hg_148.symm
                      subst hg_148
                      refine lv_istore (lv' := [(10, .int x_148), (9, .int (vi_32 a0 12)), (8, .int y_29), (7, .int (vi_21 (zr K (zr K a0 4) x1.toNatClampNeg) 1)), (6, .int y_30), (5, .int y_19), (0, .ref a0), (1, .int x1), (2, .int x2), (3, .int x_4), (4, .int y_8)]) hx hb dX2_sureFrom_161 hl (by decide) rfl (fun ls hl => ?_)
                      refine lv_iload hx hb dX2_sureFrom_163 (lv_at hl 4 rfl) ?_
                      refine lv_aload_n hx hb dX2_sureFrom_165 rfl (lv_at hl 6 rfl) ?_
                      refine zg_2_12 C hs hP ha0 hk0 wf_X2_74 dX2_sureFrom_166 ?_
                      refine lv_iload hx hb dX2_sureFrom_169 (lv_at hl 1 rfl) ?_
                      refine lv_isub hx hb dX2_sureFrom_171 ?_
                      refine lv_topi (fun x_149 ex_149 => ?_)
                      refine lv_aload_n hx hb dX2_sureFrom_172 rfl (lv_at hl 6 rfl) ?_
                      refine lv_iload hx hb dX2_sureFrom_173 (lv_at hl 0 rfl) ?_
                      refine lv_iload_n hx hb dX2_sureFrom_175 rfl (lv_at hl 8 rfl) ?_
                      refine lv_iconst (v := 1) hx hb dX2_sureFrom_176 (by decide) ?_
                      refine lv_iadd hx hb dX2_sureFrom_177 ?_
                      refine lv_topi (fun x_150 ex_150 => ?_)
                      have g_151 := z_rng x_148
                      have g_152 := z_rng x2
                      obtain ⟨f_150, l_150, u_150⟩ := z_add ex_150 rfl ti_1
                      have hq_153 : 0 ≤ x_150.toInt := by first | assumption | omega
                      have hk1_153 : (16 - x_150.toInt).toNat ≤ k - 1 ∧ k - 1 < k := by omega
                      refine zcI (zrV (As := [.int x_148, .int x_150]) (b := a0) (rest := [.int x_149, .int y_30]) C hs hP hS (ih (k - 1) hk1_153.2 vi_148 va_148 vg hI a0 ha0 hk0 x_148 x_150 hq_153 hk1_153.1) m_X2_sureFrom wm_X2_149 (zrecv hs hP ha0 (zF_2 hk0) rfl) ⟨by omega, by omega⟩ hl.1 (Nat.le_of_ble_eq_true rfl) dX2_sureFrom_178) hS (fun x_155 V_155 H locs p_155 hP hS => ?_)
                      obtain ⟨vi_155, va_155, vg_155⟩ := V_155
                      obtain ⟨hI, hg_155⟩ := p_155
                      try dsimp only at hI hg_155
                      replace hg_155 := hg_155.symm
                      subst hg_155
                      refine lv_iadd hx hb dX2_sureFrom_181 ?_
                      refine lv_topi (fun x_156 ex_156 => ?_)
                      refine va_mmin hx hb (hml.trans hl.1.symm) hown (hts _ wm_X2_152) (hts _ wt_Lib_Math_min_name) (hts _ wn_J9) (hts _ wo_min) (by show 1 ≤ (22 + k); omega) (by show 0 + 13 ≤ 64 * (22 + k); omega) (Nat.zero_le _) (Nat.zero_le _) dX2_sureFrom_182 ?_
                      refine lv_topi (fun x_157 ex_157 => ?_)
                      refine lv_istore (lv' := [(6, .int x_157), (10, .int x_148), (9, .int (vi_32 a0 12)), (8, .int y_29), (7, .int (vi_21 (zr K (zr K a0 4) x1.toNatClampNeg) 1)), (5, .int y_19), (0, .ref a0), (1, .int x1), (2, .int x2), (3, .int x_4), (4, .int y_8)]) hx hb dX2_sureFrom_185 hl (by decide) rfl (fun ls hl => ?_)
                      refine lv_aload_n hx hb dX2_sureFrom_187 rfl (lv_at hl 6 rfl) ?_
                      refine lv_iload_n hx hb dX2_sureFrom_188 rfl (lv_at hl 7 rfl) ?_
                      refine lv_iload hx hb dX2_sureFrom_189 (lv_at hl 3 rfl) ?_
                      refine lv_iload hx hb dX2_sureFrom_191 (lv_at hl 2 rfl) ?_
                      refine zcV (zrV (As := [.int x1, .int y_29, .int (vi_32 a0 12)]) (b := a0) (rest := []) C hs hP hS (c_X2_back l D K hO vi_155 va_155 vg hI a0 ha0 hk0 x1 y_29 (vi_32 a0 12)) m_X2_back wm_X2_145 (zrecv hs hP ha0 (zF_2 hk0) rfl) ⟨by omega, by omega⟩ hl.1 (Nat.le_of_ble_eq_true rfl) dX2_sureFrom_193) hS (fun V_158 H locs p_158 hP hS => ?_)
                      obtain ⟨vi_158, va_158, vg_158⟩ := V_158
                      obtain ⟨hI, hg_158⟩ := p_158
                      try dsimp only at hI hg_158
                      replace hg_158 := hg_158.symm
                      subst hg_158
                      exact J_196_127 vi_158 va_158 _ _ x_157 _ hI hP hS (lv_sub hl [6, 7, 8, 9, 10, 5, 0, 4, 3] rfl)
            have g_159 := z_rng (vi_21 a0 10)
            have g_160 := z_rng (vi_21 a0 11)
            obtain ⟨f_24, l_24, u_24⟩ := z_sub ex_24 rfl rfl
            have g_161 := z_rng x_4
            have g_162 := z_rng x2
            have g_163 := z_rng x_1
            exact L_116_31 _ vi_21 va_21 _ _ 0 x_24 _ (Nat.lt_succ_self _) (by simp only [ti_0]; omega) hI hP hS (lv_sub hl [0, 1, 2, 3, 4, 5, 6, 7, 8] rfl)
          refine bz_eq (tgt := 88) hx hb rfl dX2_sureFrom_70 (by decide) (fun c_11 => ?_) (fun c_11 => ?_)
          · skip
            refine lv_iconst (v := (-1)) hx hb dX2_sureFrom_88 (by decide) ?_
            exact J_89_20 vi va _ _ (-1) _ hI hP hS (lv_sub hl [1, 2, 3, 4, 0] rfl)
          · skip
            refine lv_aload_n hx hb dX2_sureFrom_73 rfl (lv_at hl 1 rfl) ?_
            refine lv_iload_n hx hb dX2_sureFrom_74 rfl (lv_at hl 2 rfl) ?_
            refine lv_aload_n hx hb dX2_sureFrom_75 rfl (lv_at hl 1 rfl) ?_
            refine lv_iload_n hx hb dX2_sureFrom_76 rfl (lv_at hl 2 rfl) ?_
            refine lv_iload_n hx hb dX2_sureFrom_77 rfl (lv_at hl 3 rfl) ?_
            have g_164 := z_rng x1
            have g_165 := z_rng x2
            have hq_166 : 0 ≤ x2.toInt := by first | assumption | omega
            refine zcI (zrV (As := [.int x1, .int x2]) (b := a0) (rest := [.int x1, .ref a0]) C hs hP hS (c_X2_bestFrom l D K hO vi va vg hI a0 ha0 hk0 x1 x2 hq_166) m_X2_bestFrom wm_X2_117 (zrecv hs hP ha0 (zF_2 hk0) rfl) ⟨by omega, by omega⟩ hl.1 (Nat.le_of_ble_eq_true rfl) dX2_sureFrom_78) hS (fun x_167 V_167 H locs p_167 hP hS => ?_)
            obtain ⟨vi_167, va_167, vg_167⟩ := V_167
            obtain ⟨hI, hg_167⟩ := p_167
            try dsimp only at hI hg_167
            replace hg_167 := hg_167.symm
            subst hg_167
            refine lv_iload_n hx hb dX2_sureFrom_81 rfl (lv_at hl 3 rfl) ?_
            have g_168 := z_rng x_167
            have hq_169 : 0 ≤ x2.toInt ∧ x2.toInt ≤ 16 := by first | assumption | omega
            refine zcI (zrV (As := [.int x1, .int x_167, .int x2]) (b := a0) (rest := []) C hs hP hS (c_X2_linePlace l D K hO vi_167 va_167 vg hI a0 ha0 hk0 x1 x_167 x2 hq_169) m_X2_linePlace wm_X2_124 (zrecv hs hP ha0 (zF_2 hk0) rfl) ⟨by omega, by omega⟩ hl.1 (Nat.le_of_ble_eq_true rfl) dX2_sureFrom_82) hS (fun x_170 V_170 H locs p_170 hP hS => ?_)
            obtain ⟨vi_170, va_170, vg_170⟩ := V_170
            obtain ⟨hI, hg_170⟩ := p_170
            try dsimp only at hI hg_170
            replace hg_170 := hg_170.symm
            subst hg_170
            refine lv_goto (tgt := 89) hx hb dX2_sureFrom_85 (by decide) ?_
            exact J_89_20 vi_170 va_170 _ _ x_170 _ hI hP hS (lv_sub hl [1, 2, 3, 4, 0] rfl)
        refine bi_ne (tgt := 65) hx hb rfl rfl dX2_sureFrom_58 (by decide) (fun c_7 => ?_) (fun c_7 => ?_)
        · skip
          refine lv_iconst (v := 0) hx hb dX2_sureFrom_65 (by decide) ?_
          exact J_66_9 0 _ (Or.inl rfl) (lv_sub hl [1, 2, 3, 0] rfl)
        · skip
          refine lv_iconst (v := 1) hx hb dX2_sureFrom_61 (by decide) ?_
          refine lv_goto (tgt := 66) hx hb dX2_sureFrom_62 (by decide) ?_
          exact J_66_9 1 _ (Or.inr rfl) (lv_sub hl [1, 2, 3, 0] rfl)
      · skip
        refine lv_aload_n hx hb dX2_sureFrom_26 rfl (lv_at hl 1 rfl) ?_
        refine zg_2_2 C hs hP ha0 hk0 wf_X2_24 dX2_sureFrom_27 ?_
        have hf_171 := hO.r (j := 2) ha0 hk0 (rfl : zX 2 2 = some (20, 20736))
        refine lv_iload_n hx hb dX2_sureFrom_30 rfl (lv_at hl 0 rfl) ?_
        have g_173 := z_rng x_4
        have hin_172 : vp_in x_4 (zn K (zr K a0 2)) := vp_in_iff.mpr (by rw [(hf_171.2.2 (by decide))]; refine ⟨?_, ?_⟩ <;> omega)
        refine zld_20 C hs hP hf_171.1 hf_171.2.1 hin_172 dX2_sureFrom_31 ?_
        refine lv_iconst (v := 3) hx hb dX2_sureFrom_32 (by decide) ?_
        refine lv_ishr hx hb dX2_sureFrom_33 ?_
        refine lv_topi (fun x_174 ex_174 => ?_)
        refine lv_aload_n hx hb dX2_sureFrom_34 rfl (lv_at hl 1 rfl) ?_
        refine zg_2_13 C hs hP ha0 hk0 wf_X2_68 dX2_sureFrom_35 ?_
        refine bi_ne (tgt := 51) hx hb rfl rfl dX2_sureFrom_38 (by decide) (fun c_175 => ?_) (fun c_175 => ?_)
        · skip
          refine lv_iload_n hx hb dX2_sureFrom_51 rfl (lv_at hl 2 rfl) ?_
          refine lv_iconst (v := 1) hx hb dX2_sureFrom_52 (by decide) ?_
          refine lv_iand hx hb dX2_sureFrom_53 ?_
          refine lv_topi (fun x_176 ex_176 => ?_)
          refine lv_aload_n hx hb dX2_sureFrom_54 rfl (lv_at hl 1 rfl) ?_
          refine zg_2_9 C hs hP ha0 hk0 wf_X2_49 dX2_sureFrom_55 ?_
          have J_66_179 : ∀ (y_178 : Int32) (ls : Array Slot), (y_178 = 0 ∨ y_178 = 1) → lv_has ls 11 [(0, .ref a0), (1, .int x1), (2, .int x2), (3, .int x_4)] → W p l e (rmd (22 + k)) s m args below meth c s.heap [] 0 0 Q (F0 m 66 ls [.int y_178]) := by
            intro y_178 ls hb_y_178 hl
            refine lv_istore (lv' := [(4, .int y_178), (0, .ref a0), (1, .int x1), (2, .int x2), (3, .int x_4)]) hx hb dX2_sureFrom_66 hl (by decide) rfl (fun ls hl => ?_)
            refine lv_iload hx hb dX2_sureFrom_68 (lv_at hl 0 rfl) ?_
            have J_89_190 : ∀ (vi_191 : Nat → Nat → Int32) (va_191 : Nat → Nat → Int32) (H : Heap) (locs : List Loc) (y_189 : Int32) (ls : Array Slot), zI K (vi_191, va_191, vg) → va_P D vwCl (zW K (vi_191, va_191, vg)) H → va_S (zA K) s.heap H locs → lv_has ls 11 [(0, .ref a0), (1, .int x1), (2, .int x2), (3, .int x_4), (4, .int y_178)] → W p l e (rmd (22 + k)) s m args below meth c H locs 0 0 Q (F0 m 89 ls [.int y_189]) := by
              intro vi_191 va_191 H locs y_189 ls hI hP hS hl
              refine lv_istore (lv' := [(5, .int y_189), (0, .ref a0), (1, .int x1), (2, .int x2), (3, .int x_4), (4, .int y_178)]) hx hb dX2_sureFrom_89 hl (by decide) rfl (fun ls hl => ?_)
              refine lv_aload_n hx hb dX2_sureFrom_91 rfl (lv_at hl 1 rfl) ?_
              refine zg_2_10 C hs hP ha0 hk0 wf_X2_77 dX2_sureFrom_92 ?_
              refine lv_aload_n hx hb dX2_sureFrom_95 rfl (lv_at hl 1 rfl) ?_
              refine zg_2_11 C hs hP ha0 hk0 wf_X2_71 dX2_sureFrom_96 ?_
              have hv_193 : 0 ≤ (vi_191 a0 11).toInt ∧ (vi_191 a0 11).toInt ≤ 4 := hI.2.1 _ ha0 hk0
              refine lv_isub hx hb dX2_sureFrom_99 ?_
              refine lv_topi (fun x_194 ex_194 => ?_)
              refine lv_istore (lv' := [(6, .int x_194), (5, .int y_189), (0, .ref a0), (1, .int x1), (2, .int x2), (3, .int x_4), (4, .int y_178)]) hx hb dX2_sureFrom_100 hl (by decide) rfl (fun ls hl => ?_)
              refine lv_aload_n hx hb dX2_sureFrom_102 rfl (lv_at hl 2 rfl) ?_
              refine zg_2_4 C hs hP ha0 hk0 wf_X2_32 dX2_sureFrom_103 ?_
              have hf_195 := hO.r (j := 4) ha0 hk0 (rfl : zX 2 4 = some (23, 4))
              refine lv_iload_n hx hb dX2_sureFrom_106 rfl (lv_at hl 3 rfl) ?_
              have g_197 := z_rng x1
              have hin_196 : vp_in x1 (zn K (zr K a0 4)) := vp_in_iff.mpr (by rw [(hf_195.2.2 (by decide))]; refine ⟨?_, ?_⟩ <;> omega)
              refine zld_23 C hs hP hf_195.1 hf_195.2.1 hin_196 dX2_sureFrom_107 ?_
              have hf_198 := zel_23 hO hf_195.1 hf_195.2.1 hin_196
              refine zg_7_1 C hs hP hf_198.1 hf_198.2 wf_X2_88 dX2_sureFrom_108 ?_
              refine lv_istore (lv' := [(7, .int (vi_191 (zr K (zr K a0 4) x1.toNatClampNeg) 1)), (6, .int x_194), (5, .int y_189), (0, .ref a0), (1, .int x1), (2, .int x2), (3, .int x_4), (4, .int y_178)]) hx hb dX2_sureFrom_111 hl (by decide) rfl (fun ls hl => ?_)
              refine lv_iconst (v := 0) hx hb dX2_sureFrom_113 (by decide) ?_
              refine lv_istore (lv' := [(8, .int 0), (7, .int (vi_191 (zr K (zr K a0 4) x1.toNatClampNeg) 1)), (6, .int x_194), (5, .int y_189), (0, .ref a0), (1, .int x1), (2, .int x2), (3, .int x_4), (4, .int y_178)]) hx hb dX2_sureFrom_114 hl (by decide) rfl (fun ls hl => ?_)
              have L_116_201 : ∀ (n_201 : Nat) (vi_202 : Nat → Nat → Int32) (va_202 : Nat → Nat → Int32) (H : Heap) (locs : List Loc) (y_199 : Int32) (y_200 : Int32) (ls : Array Slot), (2147483648 - y_199.toInt).toNat < n_201 → 0 ≤ y_199.toInt → zI K (vi_202, va_202, vg) → va_P D vwCl (zW K (vi_202, va_202, vg)) H → va_S (zA K) s.heap H locs → lv_has ls 11 [(8, .int y_199), (7, .int (vi_191 (zr K (zr K a0 4) x1.toNatClampNeg) 1)), (6, .int y_200), (5, .int y_189), (0, .ref a0), (1, .int x1), (2, .int x2), (3, .int x_4), (4, .int y_178)] → W p l e (rmd (22 + k)) s m args below meth c H locs 0 0 Q (F0 m 116 ls []) := by
                intro n_201
                induction n_201 with
                | zero => intro vi_202 va_202 H locs y_199 y_200 ls hm_201; exact absurd hm_201 (Nat.not_lt_zero _)
                | succ n_201 ih_201 =>
                  intro vi_202 va_202 H locs y_199 y_200 ls hm_201 iv_202_0 hI hP hS hl
                  refine lv_iload hx hb dX2_sureFrom_116 (lv_at hl 0 rfl) ?_
                  refine lv_iload hx hb dX2_sureFrom_118 (lv_at hl 1 rfl) ?_
                  refine bi_ge (tgt := 202) hx hb rfl rfl dX2_sureFrom_120 (by decide) (fun c_204 => ?_) (fun c_204 => ?_)
                  · skip
                    refine lv_iload_n hx hb dX2_sureFrom_202 rfl (lv_at hl 7 rfl) ?_
                    refine lv_iconst (v := (-1)) hx hb dX2_sureFrom_203 (by decide) ?_
                    refine bi_eq (tgt := 222) hx hb rfl ti_m1 dX2_sureFrom_204 (by decide) (fun c_263 => ?_) (fun c_263 => ?_)
                    · skip
                      refine lv_iload hx hb dX2_sureFrom_222 (lv_at hl 2 rfl) ?_
                      exact zaI hQ hx hb hr hlk hP hS ⟨hI, rfl⟩ dX2_sureFrom_224
                    · skip
                      refine lv_aload_n hx hb dX2_sureFrom_207 rfl (lv_at hl 4 rfl) ?_
                      refine zg_2_2 C hs hP ha0 hk0 wf_X2_24 dX2_sureFrom_208 ?_
                      refine lv_iload_n hx hb dX2_sureFrom_211 rfl (lv_at hl 7 rfl) ?_
                      refine lv_aload_n hx hb dX2_sureFrom_212 rfl (lv_at hl 4 rfl) ?_
                      refine zg_2_13 C hs hP ha0 hk0 wf_X2_68 dX2_sureFrom_213 ?_
                      refine lv_iconst (v := 3) hx hb dX2_sureFrom_216 (by decide) ?_
                      refine lv_ishl hx hb dX2_sureFrom_217 ?_
                      refine lv_topi (fun x_264 ex_264 => ?_)
                      refine lv_iload hx hb dX2_sureFrom_218 (lv_at hl 2 rfl) ?_
                      refine lv_ior hx hb dX2_sureFrom_220 ?_
                      refine lv_topi (fun x_265 ex_265 => ?_)
                      have hin_266 : vp_in x_4 (zn K (zr K a0 2)) := vp_in_iff.mpr (by rw [(hf_171.2.2 (by decide))]; refine ⟨?_, ?_⟩ <;> omega)
                      refine ks_20 C hO hs hP hS hf_171.1 hf_171.2.1 hI hin_266 dX2_sureFrom_221 (fun va_267 H locs hI hP hS => ?_)
                      refine lv_iload hx hb dX2_sureFrom_222 (lv_at hl 2 rfl) ?_
                      exact zaI hQ hx hb hr hlk hP hS ⟨hI, rfl⟩ dX2_sureFrom_224
                  · skip
                    refine lv_iload hx hb dX2_sureFrom_123 (lv_at hl 8 rfl) ?_
                    have J_196_295 : ∀ (vi_296 : Nat → Nat → Int32) (va_296 : Nat → Nat → Int32) (H : Heap) (locs : List Loc) (y_294 : Int32) (ls : Array Slot), zI K (vi_296, va_296, vg) → va_P D vwCl (zW K (vi_296, va_296, vg)) H → va_S (zA K) s.heap H locs → lv_has ls 11 [(0, .ref a0), (1, .int x1), (2, .int x2), (3, .int x_4), (4, .int y_178), (5, .int y_189), (6, .int y_294), (7, .int (vi_191 (zr K (zr K a0 4) x1.toNatClampNeg) 1)), (8, .int y_199)] → W p l e (rmd (22 + k)) s m args below meth c H locs 0 0 Q (F0 m 196 ls []) := by
                      intro vi_296 va_296 H locs y_294 ls hI hP hS hl
                      obtain ⟨x_298, ex_298⟩ : ∃ y : Int32, y = y_199 + 1 := ⟨_, rfl⟩
                      refine lv_iinc (v := x_298) (lv' := [(8, .int x_298), (0, .ref a0), (1, .int x1), (2, .int x2), (3, .int x_4), (4, .int y_178), (5, .int y_189), (6, .int y_294), (7, .int (vi_191 (zr K (zr K a0 4) x1.toNatClampNeg) 1))]) hx hb dX2_sureFrom_196 hl (k := 8) rfl (by rw [ex_298]; rfl) (by decide) rfl (fun ls hl => ?_)
                      refine lv_goto (tgt := 116) hx hb dX2_sureFrom_199 (by decide) ?_
                      have g_299 := z_rng y_199
                      obtain ⟨f_298, l_298, u_298⟩ := z_add ex_298 rfl ti_1
                      have g_300 := z_rng y_294
                      have g_301 := z_rng (vi_191 (zr K (zr K a0 4) x1.toNatClampNeg) 1)
                      exact ih_201 vi_296 va_296 _ _ x_298 y_294 _ (by omega) (by omega) hI hP hS (lv_sub hl [0, 8, 7, 6, 1, 2, 3, 4, 5] rfl)
                    refine bz_eq (tgt := 138) hx hb rfl dX2_sureFrom_125 (by decide) (fun c_268 => ?_) (fun c_268 => ?_)
                    · skip
                      refine lv_aload_n hx hb dX2_sureFrom_138 rfl (lv_at hl 4 rfl) ?_
                      refine lv_iload_n hx hb dX2_sureFrom_139 rfl (lv_at hl 5 rfl) ?_
                      refine lv_iload hx hb dX2_sureFrom_140 (lv_at hl 0 rfl) ?_
                      refine zcI (zrV (As := [.int x1, .int y_199]) (b := a0) (rest := []) C hs hP hS (c_X2_lets l D K hO vi_202 va_202 vg hI a0 ha0 hk0 x1 y_199) m_X2_lets wm_X2_141 (zrecv hs hP ha0 (zF_2 hk0) rfl) ⟨by omega, by omega⟩ hl.1 (Nat.le_of_ble_eq_true rfl) dX2_sureFrom_142) hS (fun x_302 V_302 H locs p_302 hP hS => ?_)
                      obtain ⟨vi_302, va_302, vg_302⟩ := V_302
                      obtain ⟨hI, hg_302, hb_302⟩ := p_302
                      try dsimp only at hI hg_302
                      replace hg_302 := hg_302.symm
                      subst hg_302
                      refine bz_eq (tgt := 196) hx hb rfl dX2_sureFrom_145 (by decide) (fun c_303 => ?_) (fun c_303 => ?_)
                      · skip
                        exact J_196_295 vi_302 va_302 _ _ y_200 _ hI hP hS (lv_sub hl [4, 5, 6, 7, 8, 3, 2, 1, 0] rfl)
                      · skip
                        refine lv_aload_n hx hb dX2_sureFrom_148 rfl (lv_at hl 4 rfl) ?_
                        refine zg_2_12 C hs hP ha0 hk0 wf_X2_74 dX2_sureFrom_149 ?_
                        refine lv_istore (lv' := [(9, .int (vi_302 a0 12)), (8, .int y_199), (7, .int (vi_191 (zr K (zr K a0 4) x1.toNatClampNeg) 1)), (6, .int y_200), (5, .int y_189), (0, .ref a0), (1, .int x1), (2, .int x2), (3, .int x_4), (4, .int y_178)]) hx hb dX2_sureFrom_152 hl (by decide) rfl (fun ls hl => ?_)
                        refine lv_aload_n hx hb dX2_sureFrom_154 rfl (lv_at hl 5 rfl) ?_
                        refine lv_iload_n hx hb dX2_sureFrom_155 rfl (lv_at hl 6 rfl) ?_
                        refine lv_iload hx hb dX2_sureFrom_156 (lv_at hl 1 rfl) ?_
                        refine zcI (zrV (As := [.int x1, .int y_199]) (b := a0) (rest := []) C hs hP hS (c_X2_forward l D K hO vi_302 va_302 vg hI a0 ha0 hk0 x1 y_199) m_X2_forward wm_X2_128 (zrecv hs hP ha0 (zF_2 hk0) rfl) ⟨by omega, by omega⟩ hl.1 (Nat.le_of_ble_eq_true rfl) dX2_sureFrom_158) hS (fun x_304 V_304 H locs p_304 hP hS => ?_)
                        obtain ⟨vi_304, va_304, vg_304⟩ := V_304
                        obtain ⟨hI, hg_304⟩ := p_304
                        try dsimp only at hI hg_304
                        replace hg_304 := hg_304.symm
                        subst hg_304
                        refine lv_istore (lv' := [(10, .int x_304), (9, .int (vi_302 a0 12)), (8, .int y_199), (7, .int (vi_191 (zr K (zr K a0 4) x1.toNatClampNeg) 1)), (6, .int y_200), (5, .int y_189), (0, .ref a0), (1, .int x1), (2, .int x2), (3, .int x_4), (4, .int y_178)]) hx hb dX2_sureFrom_161 hl (by decide) rfl (fun ls hl => ?_)
                        refine lv_iload hx hb dX2_sureFrom_163 (lv_at hl 4 rfl) ?_
                        refine lv_aload_n hx hb dX2_sureFrom_165 rfl (lv_at hl 6 rfl) ?_
                        refine zg_2_12 C hs hP ha0 hk0 wf_X2_74 dX2_sureFrom_166 ?_
                        refine lv_iload hx hb dX2_sureFrom_169 (lv_at hl 1 rfl) ?_
                        refine lv_isub hx hb dX2_sureFrom_171 ?_
                        refine lv_topi (fun x_305 ex_305 => ?_)
                        refine lv_aload_n hx hb dX2_sureFrom_172 rfl (lv_at hl 6 rfl) ?_
                        refine lv_iload hx hb dX2_sureFrom_173 (lv_at hl 0 rfl) ?_
                        refine lv_iload_n hx hb dX2_sureFrom_175 rfl (lv_at hl 8 rfl) ?_
                        refine lv_iconst (v := 1) hx hb dX2_sureFrom_176 (by decide) ?_
                        refine lv_iadd hx hb dX2_sureFrom_177 ?_
                        refine lv_topi (fun x_306 ex_306 => ?_)
                        have g_307 := z_rng x_304
                        have g_308 := z_rng x2
                        obtain ⟨f_306, l_306, u_306⟩ := z_add ex_306 rfl ti_1
                        have hq_309 : 0 ≤ x_306.toInt := by first | assumption | omega
                        have hk1_309 : (16 - x_306.toInt).toNat ≤ k - 1 ∧ k - 1 < k := by omega
                        refine zcI (zrV (As := [.int x_304, .int x_306]) (b := a0) (rest := [.int x_305, .int y_200]) C hs hP hS (ih (k - 1) hk1_309.2 vi_304 va_304 vg hI a0 ha0 hk0 x_304 x_306 hq_309 hk1_309.1) m_X2_sureFrom wm_X2_149 (zrecv hs hP ha0 (zF_2 hk0) rfl) ⟨by omega, by omega⟩ hl.1 (Nat.le_of_ble_eq_true rfl) dX2_sureFrom_178) hS (fun x_311 V_311 H locs p_311 hP hS => ?_)
                        obtain ⟨vi_311, va_311, vg_311⟩ := V_311
                        obtain ⟨hI, hg_311⟩ := p_311
                        try dsimp only at hI hg_311
                        replace hg_311 := hg_311.symm
                        subst hg_311
                        refine lv_iadd hx hb dX2_sureFrom_181 ?_
                        refine lv_topi (fun x_312 ex_312 => ?_)
                        refine va_mmin hx hb (hml.trans hl.1.symm) hown (hts _ wm_X2_152) (hts _ wt_Lib_Math_min_name) (hts _ wn_J9) (hts _ wo_min) (by show 1 ≤ (22 + k); omega) (by show 0 + 13 ≤ 64 * (22 + k); omega) (Nat.zero_le _) (Nat.zero_le _) dX2_sureFrom_182 ?_
                        refine lv_topi (fun x_313 ex_313 => ?_)
                        refine lv_istore (lv' := [(6, .int x_313), (10, .int x_304), (9, .int (vi_302 a0 12)), (8, .int y_199), (7, .int (vi_191 (zr K (zr K a0 4) x1.toNatClampNeg) 1)), (5, .int y_189), (0, .ref a0), (1, .int x1), (2, .int x2), (3, .int x_4), (4, .int y_178)]) hx hb dX2_sureFrom_185 hl (by decide) rfl (fun ls hl => ?_)
                        refine lv_aload_n hx hb dX2_sureFrom_187 rfl (lv_at hl 6 rfl) ?_
                        refine lv_iload_n hx hb dX2_sureFrom_188 rfl (lv_at hl 7 rfl) ?_
                        refine lv_iload hx hb dX2_sureFrom_189 (lv_at hl 3 rfl) ?_
                        refine lv_iload hx hb dX2_sureFrom_191 (lv_at hl 2 rfl) ?_
                        refine zcV (zrV (As := [.int x1, .int y_199, .int (vi_302 a0 12)]) (b := a0) (rest := []) C hs hP hS (c_X2_back l D K hO vi_311 va_311 vg hI a0 ha0 hk0 x1 y_199 (vi_302 a0 12)) m_X2_back wm_X2_145 (zrecv hs hP ha0 (zF_2 hk0) rfl) ⟨by omega, by omega⟩ hl.1 (Nat.le_of_ble_eq_true rfl) dX2_sureFrom_193) hS (fun V_314 H locs p_314 hP hS => ?_)
                        obtain ⟨vi_314, va_314, vg_314⟩ := V_314
                        obtain ⟨hI, hg_314⟩ := p_314
                        try dsimp only at hI hg_314
                        replace hg_314 := hg_314.symm
                        subst hg_314
                        exact J_196_295 vi_314 va_314 _ _ x_313 _ hI hP hS (lv_sub hl [6, 7, 8, 9, 10, 5, 0, 4, 3] rfl)
                    · skip
                      refine lv_iload hx hb dX2_sureFrom_128 (lv_at hl 0 rfl) ?_
                      refine lv_iload hx hb dX2_sureFrom_130 (lv_at hl 3 rfl) ?_
                      refine bi_ne (tgt := 196) hx hb rfl rfl dX2_sureFrom_132 (by decide) (fun c_315 => ?_) (fun c_315 => ?_)
                      · skip
                        exact J_196_295 vi_202 va_202 _ _ y_200 _ hI hP hS (lv_sub hl [4, 5, 6, 7, 8, 3, 2, 1, 0] rfl)
                      · skip
                        refine lv_goto (tgt := 148) hx hb dX2_sureFrom_135 (by decide) ?_
                        refine lv_aload_n hx hb dX2_sureFrom_148 rfl (lv_at hl 4 rfl) ?_
                        refine zg_2_12 C hs hP ha0 hk0 wf_X2_74 dX2_sureFrom_149 ?_
                        refine lv_istore (lv' := [(9, .int (vi_202 a0 12)), (8, .int y_199), (7, .int (vi_191 (zr K (zr K a0 4) x1.toNatClampNeg) 1)), (6, .int y_200), (5, .int y_189), (0, .ref a0), (1, .int x1), (2, .int x2), (3, .int x_4), (4, .int y_178)]) hx hb dX2_sureFrom_152 hl (by decide) rfl (fun ls hl => ?_)
                        refine lv_aload_n hx hb dX2_sureFrom_154 rfl (lv_at hl 5 rfl) ?_
                        refine lv_iload_n hx hb dX2_sureFrom_155 rfl (lv_at hl 6 rfl) ?_
                        refine lv_iload hx hb dX2_sureFrom_156 (lv_at hl 1 rfl) ?_
                        refine zcI (zrV (As := [.int x1, .int y_199]) (b := a0) (rest := []) C hs hP hS (c_X2_forward l D K hO vi_202 va_202 vg hI a0 ha0 hk0 x1 y_199) m_X2_forward wm_X2_128 (zrecv hs hP ha0 (zF_2 hk0) rfl) ⟨by omega, by omega⟩ hl.1 (Nat.le_of_ble_eq_true rfl) dX2_sureFrom_158) hS (fun x_316 V_316 H locs p_316 hP hS => ?_)
                        obtain ⟨vi_316, va_316, vg_316⟩ := V_316
                        obtain ⟨hI, hg_316⟩ := p_316
                        try dsimp only at hI hg_316
                        replace hg_316 := hg_316.symm
                        subst hg_316
                        refine lv_istore (lv' := [(10, .int x_316), (9, .int (vi_202 a0 12)), (8, .int y_199), (7, .int (vi_191 (zr K (zr K a0 4) x1.toNatClampNeg) 1)), (6, .int y_200), (5, .int y_189), (0, .ref a0), (1, .int x1), (2, .int x2), (3, .int x_4), (4, .int y_178)]) hx hb dX2_sureFrom_161 hl (by decide) rfl (fun ls hl => ?_)
                        refine lv_iload hx hb dX2_sureFrom_163 (lv_at hl 4 rfl) ?_
                        refine lv_aload_n hx hb dX2_sureFrom_165 rfl (lv_at hl 6 rfl) ?_
                        refine zg_2_12 C hs hP ha0 hk0 wf_X2_74 dX2_sureFrom_166 ?_
                        refine lv_iload hx hb dX2_sureFrom_169 (lv_at hl 1 rfl) ?_
                        refine lv_isub hx hb dX2_sureFrom_171 ?_
                        refine lv_topi (fun x_317 ex_317 => ?_)
                        refine lv_aload_n hx hb dX2_sureFrom_172 rfl (lv_at hl 6 rfl) ?_
                        refine lv_iload hx hb dX2_sureFrom_173 (lv_at hl 0 rfl) ?_
                        refine lv_iload_n hx hb dX2_sureFrom_175 rfl (lv_at hl 8 rfl) ?_
                        refine lv_iconst (v := 1) hx hb dX2_sureFrom_176 (by decide) ?_
                        refine lv_iadd hx hb dX2_sureFrom_177 ?_
                        refine lv_topi (fun x_318 ex_318 => ?_)
                        have g_319 := z_rng x_316
                        have g_320 := z_rng x2
                        obtain ⟨f_318, l_318, u_318⟩ := z_add ex_318 rfl ti_1
                        have hq_321 : 0 ≤ x_318.toInt := by first | assumption | omega
                        have hk1_321 : (16 - x_318.toInt).toNat ≤ k - 1 ∧ k - 1 < k := by omega
                        refine zcI (zrV (As := [.int x_316, .int x_318]) (b := a0) (rest := [.int x_317, .int y_200]) C hs hP hS (ih (k - 1) hk1_321.2 vi_316 va_316 vg hI a0 ha0 hk0 x_316 x_318 hq_321 hk1_321.1) m_X2_sureFrom wm_X2_149 (zrecv hs hP ha0 (zF_2 hk0) rfl) ⟨by omega, by omega⟩ hl.1 (Nat.le_of_ble_eq_true rfl) dX2_sureFrom_178) hS (fun x_323 V_323 H locs p_323 hP hS => ?_)
                        obtain ⟨vi_323, va_323, vg_323⟩ := V_323
                        obtain ⟨hI, hg_323⟩ := p_323
                        try dsimp only at hI hg_323
                        replace hg_323 := hg_323.symm
                        subst hg_323
                        refine lv_iadd hx hb dX2_sureFrom_181 ?_
                        refine lv_topi (fun x_324 ex_324 => ?_)
                        refine va_mmin hx hb (hml.trans hl.1.symm) hown (hts _ wm_X2_152) (hts _ wt_Lib_Math_min_name) (hts _ wn_J9) (hts _ wo_min) (by show 1 ≤ (22 + k); omega) (by show 0 + 13 ≤ 64 * (22 + k); omega) (Nat.zero_le _) (Nat.zero_le _) dX2_sureFrom_182 ?_
                        refine lv_topi (fun x_325 ex_325 => ?_)
                        refine lv_istore (lv' := [(6, .int x_325), (10, .int x_316), (9, .int (vi_202 a0 12)), (8, .int y_199), (7, .int (vi_191 (zr K (zr K a0 4) x1.toNatClampNeg) 1)), (5, .int y_189), (0, .ref a0), (1, .int x1), (2, .int x2), (3, .int x_4), (4, .int y_178)]) hx hb dX2_sureFrom_185 hl (by decide) rfl (fun ls hl => ?_)
                        refine lv_aload_n hx hb dX2_sureFrom_187 rfl (lv_at hl 6 rfl) ?_
                        refine lv_iload_n hx hb dX2_sureFrom_188 rfl (lv_at hl 7 rfl) ?_
                        refine lv_iload hx hb dX2_sureFrom_189 (lv_at hl 3 rfl) ?_
                        refine lv_iload hx hb dX2_sureFrom_191 (lv_at hl 2 rfl) ?_
                        refine zcV (zrV (As := [.int x1, .int y_199, .int (vi_202 a0 12)]) (b := a0) (rest := []) C hs hP hS (c_X2_back l D K hO vi_323 va_323 vg hI a0 ha0 hk0 x1 y_199 (vi_202 a0 12)) m_X2_back wm_X2_145 (zrecv hs hP ha0 (zF_2 hk0) rfl) ⟨by omega, by omega⟩ hl.1 (Nat.le_of_ble_eq_true rfl) dX2_sureFrom_193) hS (fun V_326 H locs p_326 hP hS => ?_)
                        obtain ⟨vi_326, va_326, vg_326⟩ := V_326
                        obtain ⟨hI, hg_326⟩ := p_326
                        try dsimp only at hI hg_326
                        replace hg_326 := hg_326.symm
                        subst hg_326
                        exact J_196_295 vi_326 va_326 _ _ x_325 _ hI hP hS (lv_sub hl [6, 7, 8, 9, 10, 5, 0, 4, 3] rfl)
              have g_327 := z_rng (vi_191 a0 10)
              have g_328 := z_rng (vi_191 a0 11)
              obtain ⟨f_194, l_194, u_194⟩ := z_sub ex_194 rfl rfl
              have g_329 := z_rng x_174
              have g_330 := z_rng (vi a0 13)
              have g_331 := z_rng x2
              have g_332 := z_rng x_1
              exact L_116_201 _ vi_191 va_191 _ _ 0 x_194 _ (Nat.lt_succ_self _) (by simp only [ti_0]; omega) hI hP hS (lv_sub hl [0, 1, 2, 3, 4, 5, 6, 7, 8] rfl)
            refine bz_eq (tgt := 88) hx hb rfl dX2_sureFrom_70 (by decide) (fun c_181 => ?_) (fun c_181 => ?_)
            · skip
              refine lv_iconst (v := (-1)) hx hb dX2_sureFrom_88 (by decide) ?_
              exact J_89_190 vi va _ _ (-1) _ hI hP hS (lv_sub hl [1, 2, 3, 4, 0] rfl)
            · skip
              refine lv_aload_n hx hb dX2_sureFrom_73 rfl (lv_at hl 1 rfl) ?_
              refine lv_iload_n hx hb dX2_sureFrom_74 rfl (lv_at hl 2 rfl) ?_
              refine lv_aload_n hx hb dX2_sureFrom_75 rfl (lv_at hl 1 rfl) ?_
              refine lv_iload_n hx hb dX2_sureFrom_76 rfl (lv_at hl 2 rfl) ?_
              refine lv_iload_n hx hb dX2_sureFrom_77 rfl (lv_at hl 3 rfl) ?_
              have g_333 := z_rng x1
              have g_334 := z_rng x2
              have hq_335 : 0 ≤ x2.toInt := by first | assumption | omega
              refine zcI (zrV (As := [.int x1, .int x2]) (b := a0) (rest := [.int x1, .ref a0]) C hs hP hS (c_X2_bestFrom l D K hO vi va vg hI a0 ha0 hk0 x1 x2 hq_335) m_X2_bestFrom wm_X2_117 (zrecv hs hP ha0 (zF_2 hk0) rfl) ⟨by omega, by omega⟩ hl.1 (Nat.le_of_ble_eq_true rfl) dX2_sureFrom_78) hS (fun x_336 V_336 H locs p_336 hP hS => ?_)
              obtain ⟨vi_336, va_336, vg_336⟩ := V_336
              obtain ⟨hI, hg_336⟩ := p_336
              try dsimp only at hI hg_336
              replace hg_336 := hg_336.symm
              subst hg_336
              refine lv_iload_n hx hb dX2_sureFrom_81 rfl (lv_at hl 3 rfl) ?_
              have g_337 := z_rng x_336
              have hq_338 : 0 ≤ x2.toInt ∧ x2.toInt ≤ 16 := by first | assumption | omega
              refine zcI (zrV (As := [.int x1, .int x_336, .int x2]) (b := a0) (rest := []) C hs hP hS (c_X2_linePlace l D K hO vi_336 va_336 vg hI a0 ha0 hk0 x1 x_336 x2 hq_338) m_X2_linePlace wm_X2_124 (zrecv hs hP ha0 (zF_2 hk0) rfl) ⟨by omega, by omega⟩ hl.1 (Nat.le_of_ble_eq_true rfl) dX2_sureFrom_82) hS (fun x_339 V_339 H locs p_339 hP hS => ?_)
              obtain ⟨vi_339, va_339, vg_339⟩ := V_339
              obtain ⟨hI, hg_339⟩ := p_339
              try dsimp only at hI hg_339
              replace hg_339 := hg_339.symm
              subst hg_339
              refine lv_goto (tgt := 89) hx hb dX2_sureFrom_85 (by decide) ?_
              exact J_89_190 vi_339 va_339 _ _ x_339 _ hI hP hS (lv_sub hl [1, 2, 3, 4, 0] rfl)
          refine bi_ne (tgt := 65) hx hb rfl rfl dX2_sureFrom_58 (by decide) (fun c_177 => ?_) (fun c_177 => ?_)
          · skip
            refine lv_iconst (v := 0) hx hb dX2_sureFrom_65 (by decide) ?_
            exact J_66_179 0 _ (Or.inl rfl) (lv_sub hl [1, 2, 3, 0] rfl)
          · skip
            refine lv_iconst (v := 1) hx hb dX2_sureFrom_61 (by decide) ?_
            refine lv_goto (tgt := 66) hx hb dX2_sureFrom_62 (by decide) ?_
            exact J_66_179 1 _ (Or.inr rfl) (lv_sub hl [1, 2, 3, 0] rfl)
        · skip
          refine lv_aload_n hx hb dX2_sureFrom_41 rfl (lv_at hl 1 rfl) ?_
          refine zg_2_2 C hs hP ha0 hk0 wf_X2_24 dX2_sureFrom_42 ?_
          refine lv_iload_n hx hb dX2_sureFrom_45 rfl (lv_at hl 0 rfl) ?_
          have hin_340 : vp_in x_4 (zn K (zr K a0 2)) := vp_in_iff.mpr (by rw [(hf_171.2.2 (by decide))]; refine ⟨?_, ?_⟩ <;> omega)
          refine zld_20 C hs hP hf_171.1 hf_171.2.1 hin_340 dX2_sureFrom_46 ?_
          refine lv_bipush (v := 7) hx hb dX2_sureFrom_47 (by decide) ?_
          refine lv_iand hx hb dX2_sureFrom_49 ?_
          refine lv_topi (fun x_341 ex_341 => ?_)
          exact zaI hQ hx hb hr hlk hP hS ⟨hI, rfl⟩ dX2_sureFrom_50
    · skip
      refine lv_iconst (v := 0) hx hb dX2_sureFrom_13 (by decide) ?_
      exact zaI hQ hx hb hr hlk hP hS ⟨hI, rfl⟩ dX2_sureFrom_14
theorem c_X2_sureFrom (l : Launch) (D : va_G) (K : zK) (hO : zOk K) (vi va : Nat → Nat → Int32) (vg : Nat → Nat → Option Nat) (hI : zI K (vi, va, vg)) (a0 : Nat) (ha0 : a0 ∈ zl K) (hk0 : zk K a0 = 2) (x1 : Int32) (x2 : Int32) (hp0 : 0 ≤ x2.toInt) : Met l yX2_sureFrom (zc yX2_sureFrom cX2_sureFrom 11 (some .int)) (rmd 38) (va_Pc [.ref a0, .int x1, .int x2] (zB D K (vi, va, vg))) (zQi D K (fun r V' => zI K V' ∧ V'.2.2 = vg)) 0 0 (zA K) := c_X2_sureFrom_k l D K hO 16 vi va vg hI a0 ha0 hk0 x1 x2 hp0 (by omega)
