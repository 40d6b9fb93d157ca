set_option maxHeartbeats 4000000 in
set_option maxRecDepth 100000 in
theorem c_X12_solve (l : Launch) (D : va_G) (K : zK) (hM : mK K) (f : Nat → Int32) (A : Nat → Nat → Int32) (hT : mT f A) (a0 : Nat) (ha0 : a0 ∈ zl K) (hk0 : zk K a0 = 11) (x1 : Int32) (x2 : Int32) (x3 : Int32) (hp0 : zRow x2.toInt) (hp1 : h4 (A 40) x2.toInt 4) (hp2 : ((f 23).toInt = x1.toInt → aOk (A 40) x2.toInt (f 20).toInt)) (hp3 : (f 11).toInt ≤ 1960000000) : Met l yX12_solve (zc yX12_solve cX12_solve 7 none) (rmd 5) (va_Pc [.ref a0, .int x1, .int x2, .int x3] (zB D K (mV K f A))) (mQv D K (fun f' A' => mT f' A' ∧ (∀ k, k ∉ ([50, 53, 55, 58, 59, 61, 62, 66, 69, 70, 71, 72, 73] : List Nat) → A' k = A k) ∧ (∀ k, k ∉ ([11, 12, 14, 16, 20, 23, 24, 25, 27, 28, 34, 35] : List Nat) → f' k = f k) ∧ (f' 11).toInt = (f 11).toInt ∧ (f' 12).toInt = (f 12).toInt ∧ aOk (A 40) x2.toInt (f' 20).toInt ∧ (f' 23).toInt = x1.toInt)) 0 0 (zA K) := by
  refine zin (by decide) (Nat.le_of_ble_eq_true rfl) ?_
  intro p e s m args below meth c ls Q hQ C hr hlk hP hs hl
  have C : CallFix p m c cX12_solve 7 s args zw RX12 := C
  obtain ⟨hx, hb, hml, hown, hts⟩ := id C
  have hO := hM.1
  have hS : va_S (zA K) s.heap s.heap [] := va_S.rf
  have FA : ∀ k, k ∉ ([50, 53, 55, 58, 59, 61, 62, 66, 69, 70, 71, 72, 73] : List Nat) → A k = A k := fun _ _ => rfl
  have FF : ∀ k, k ∉ ([11, 12, 14, 16, 20, 23, 24, 25, 27, 28, 34, 35] : List Nat) → f k = f k := fun _ _ => rfl
  have hl : lv_has ls 7 [(0, .ref a0), (1, .int x1), (2, .int x2), (3, .int x3)] := hl
  have hb0 := hp0.lin
  refine lv_aload_n hx hb dX12_solve_0 rfl (lv_at hl 0 rfl) ?_
  refine mg_23 C hs hP ha0 hk0 wf_X12_56 dX12_solve_1 ?_
  refine lv_iload_n hx hb dX12_solve_4 rfl (lv_at hl 1 rfl) ?_
  have J_17_3 : ∀ (ls : Array Slot), lv_has ls 7 [(0, .ref a0), (1, .int x1), (2, .int x2), (3, .int x3)] → W p l e (rmd 5) s m args below meth c s.heap [] 0 0 Q (F0 m 17 ls []) := by
    intro ls hl
    refine lv_aload_n hx hb dX12_solve_17 rfl (lv_at hl 0 rfl) ?_
    refine lv_iload_n hx hb dX12_solve_18 rfl (lv_at hl 1 rfl) ?_
    refine mp_23 C hM hs hP hS ha0 hT hk0 wf_X12_56 trivial dX12_solve_19 (fun f_5 H locs hE_5 hT hP hS => ?_)
    have FF := frF FF (frFu hE_5) (by decide)
    refine lv_aload_n hx hb dX12_solve_22 rfl (lv_at hl 0 rfl) ?_
    refine lv_iload_n hx hb dX12_solve_23 rfl (lv_at hl 3 rfl) ?_
    refine mp_24 C hM hs hP hS ha0 hT hk0 wf_X12_283 trivial dX12_solve_24 (fun f_6 H locs hE_6 hT hP hS => ?_)
    have FF := frF FF (frFu hE_6) (by decide)
    refine lv_aload_n hx hb dX12_solve_27 rfl (lv_at hl 0 rfl) ?_
    refine lv_iload_n hx hb dX12_solve_28 rfl (lv_at hl 3 rfl) ?_
    refine mp_25 C hM hs hP hS ha0 hT hk0 wf_X12_262 trivial dX12_solve_29 (fun f_7 H locs hE_7 hT hP hS => ?_)
    have FF := frF FF (frFu hE_7) (by decide)
    refine lv_aload_n hx hb dX12_solve_32 rfl (lv_at hl 0 rfl) ?_
    refine mg_12 C hs hP ha0 hk0 wf_X12_78 dX12_solve_33 ?_
    have ev_8 : f_7 12 = f 12 := by rw [hE_7, pk_un (show 12 ≠ 25 by decide), hE_6, pk_un (show 12 ≠ 24 by decide), hE_5, pk_un (show 12 ≠ 23 by decide)]
    rw [ev_8]
    have hb_9 : f 12 = 0 ∨ f 12 = 1 := z_b01 (by rw [← ev_8]; exact hT.1 12)
    have tf_10 : 0 ≤ (f 12).toInt ∧ (f 12).toInt ≤ 1 := by rw [← ev_8]; exact hT.1 12
    refine lv_istore (lv' := [(4, .int (f 12)), (0, .ref a0), (1, .int x1), (2, .int x2), (3, .int x3)]) hx hb dX12_solve_36 hl (by decide) rfl (fun ls hl => ?_)
    refine lv_aload_n hx hb dX12_solve_38 rfl (lv_at hl 1 rfl) ?_
    refine lv_iconst (v := 1) hx hb dX12_solve_39 (by decide) ?_
    refine mp_12 C hM hs hP hS ha0 hT hk0 wf_X12_78 (Or.inr rfl) (show 0 ≤ (1 : Int32).toInt ∧ (1 : Int32).toInt ≤ 1 from by rw [ti_1]; omega) dX12_solve_40 (fun f_11 H locs hE_11 hT hP hS => ?_)
    have FF := frF FF (frFu hE_11) (by decide)
    refine lv_aload_n hx hb dX12_solve_43 rfl (lv_at hl 1 rfl) ?_
    refine lv_iconst (v := 0) hx hb dX12_solve_44 (by decide) ?_
    refine mp_20 C hM hs hP hS ha0 hT hk0 wf_X12_286 (show 0 ≤ (0 : Int32).toInt ∧ (0 : Int32).toInt ≤ 65535 from by rw [ti_0]; omega) dX12_solve_45 (fun f_12 H locs hE_12 hT hP hS => ?_)
    have FF := frF FF (frFu hE_12) (by decide)
    refine lv_iconst (v := 0) hx hb dX12_solve_48 (by decide) ?_
    refine lv_istore (lv' := [(5, .int 0), (4, .int (f 12)), (0, .ref a0), (1, .int x1), (2, .int x2), (3, .int x3)]) hx hb dX12_solve_49 hl (by decide) rfl (fun ls hl => ?_)
    have L_51_14 : ∀ (n_14 : Nat) (f_15 : Nat → Int32) (A_15 : Nat → Nat → Int32) (H : Heap) (locs : List Loc) (y_13 : Int32) (ls : Array Slot), (2147483648 - y_13.toInt).toNat < n_14 → 0 ≤ y_13.toInt → y_13.toInt ≤ 4 → (f_15 11).toInt = (f 11).toInt → (f_15 12).toInt = 1 → (f_15 23).toInt = x1.toInt → aOkN (A 40) x2.toInt (f_15 20).toInt y_13.toInt → (∀ k, k ∉ ([50, 53, 55, 58, 59, 61, 62, 66, 69, 70, 71, 72, 73] : List Nat) → A_15 k = A k) → (∀ k, k ∉ ([11, 12, 14, 16, 20, 23, 24, 25, 27, 28, 34, 35] : List Nat) → f_15 k = f k) → mT f_15 A_15 → va_P D vwCl (zW K (mV K f_15 A_15)) H → va_S (zA K) s.heap H locs → lv_has ls 7 [(5, .int y_13), (4, .int (f 12)), (0, .ref a0), (1, .int x1), (2, .int x2), (3, .int x3)] → W p l e (rmd 5) s m args below meth c H locs 0 0 Q (F0 m 51 ls []) := by
      intro n_14
      induction n_14 with
      | zero => intro f_15 A_15 H locs y_13 ls hm_14; exact absurd hm_14 (Nat.not_lt_zero _)
      | succ n_14 ih_14 =>
        intro f_15 A_15 H locs y_13 ls hm_14 iv_15_0 iv_15_1 iv_15_2 iv_15_3 iv_15_4 iv_15_5 FA_15 FF_15 hT hP hS hl
        have FA := FA_15
        have FF := FF_15
        refine lv_iload hx hb dX12_solve_51 (lv_at hl 0 rfl) ?_
        refine lv_iconst (v := 4) hx hb dX12_solve_53 (by decide) ?_
        refine bi_ge (tgt := 156) hx hb rfl ti_4 dX12_solve_54 (by decide) (fun c_17 => ?_) (fun c_17 => ?_)
        · skip
          refine lv_iconst (v := 0) hx hb dX12_solve_156 (by decide) ?_
          refine lv_istore (lv' := [(5, .int 0), (4, .int (f 12)), (0, .ref a0), (1, .int x1), (2, .int x2), (3, .int x3)]) hx hb dX12_solve_157 hl (by decide) rfl (fun ls hl => ?_)
          have L_159_103 : ∀ (n_103 : Nat) (f_104 : Nat → Int32) (A_104 : Nat → Nat → Int32) (H : Heap) (locs : List Loc) (y_102 : Int32) (ls : Array Slot), (65536 - y_102.toInt).toNat < n_103 → 0 ≤ y_102.toInt ∧ y_102.toInt ≤ 65535 → y_102 &&& f_104 20 = y_102 → (f_104 11).toInt = (f 11).toInt → (f_104 12).toInt = 1 → (f_104 23).toInt = x1.toInt → aOk (A 40) x2.toInt (f_104 20).toInt → (∀ k, k ∉ ([50, 53, 55, 58, 59, 61, 62, 66, 69, 70, 71, 72, 73] : List Nat) → A_104 k = A k) → (∀ k, k ∉ ([11, 12, 14, 16, 20, 23, 24, 25, 27, 28, 34, 35] : List Nat) → f_104 k = f k) → mT f_104 A_104 → va_P D vwCl (zW K (mV K f_104 A_104)) H → va_S (zA K) s.heap H locs → lv_has ls 7 [(5, .int y_102), (4, .int (f 12)), (0, .ref a0), (1, .int x1), (2, .int x2), (3, .int x3)] → W p l e (rmd 5) s m args below meth c H locs 0 0 Q (F0 m 159 ls []) := by
            intro n_103
            induction n_103 with
            | zero => intro f_104 A_104 H locs y_102 ls hm_103; exact absurd hm_103 (Nat.not_lt_zero _)
            | succ n_103 ih_103 =>
              intro f_104 A_104 H locs y_102 ls hm_103 iv_104_0 iv_104_1 iv_104_2 iv_104_3 iv_104_4 iv_104_5 FA_104 FF_104 hT hP hS hl
              have FA := FA_104
              have FF := FF_104
              refine lv_iconst (v := 0) hx hb dX12_solve_159 (by decide) ?_
              refine lv_istore (lv' := [(6, .int 0), (5, .int y_102), (4, .int (f 12)), (0, .ref a0), (1, .int x1), (2, .int x2), (3, .int x3)]) hx hb dX12_solve_160 hl (by decide) rfl (fun ls hl => ?_)
              have L_162_107 : ∀ (n_107 : Nat) (f_108 : Nat → Int32) (A_108 : Nat → Nat → Int32) (H : Heap) (locs : List Loc) (y_106 : Int32) (ls : Array Slot), (2147483648 - y_106.toInt).toNat < n_107 → 0 ≤ y_106.toInt → (f_108 11).toInt = (f 11).toInt → (f_108 12).toInt = 1 → (f_108 23).toInt = x1.toInt → f_108 20 = f_104 20 → (∀ k, k ∉ ([50, 53, 55, 58, 59, 61, 62, 66, 69, 70, 71, 72, 73] : List Nat) → A_108 k = A k) → (∀ k, k ∉ ([11, 12, 14, 16, 20, 23, 24, 25, 27, 28, 34, 35] : List Nat) → f_108 k = f k) → mT f_108 A_108 → va_P D vwCl (zW K (mV K f_108 A_108)) H → va_S (zA K) s.heap H locs → lv_has ls 7 [(6, .int y_106), (5, .int y_102), (4, .int (f 12)), (0, .ref a0), (1, .int x1), (2, .int x2), (3, .int x3)] → W p l e (rmd 5) s m args below meth c H locs 0 0 Q (F0 m 162 ls []) := by
                intro n_107
                induction n_107 with
                | zero => intro f_108 A_108 H locs y_106 ls hm_107; exact absurd hm_107 (Nat.not_lt_zero _)
                | succ n_107 ih_107 =>
                  intro f_108 A_108 H locs y_106 ls hm_107 iv_108_0 iv_108_1 iv_108_2 iv_108_3 iv_108_4 FA_108 FF_108 hT hP hS hl
                  have FA := FA_108
                  have FF := FF_108
                  refine lv_iload hx hb dX12_solve_162 (lv_at hl 0 rfl) ?_
                  refine lv_iconst (v := 4) hx hb dX12_solve_164 (by decide) ?_
                  have J_256_165 : ∀ (ls : Array Slot), lv_has ls 7 [(0, .ref a0), (1, .int x1), (2, .int x2), (3, .int x3), (4, .int (f 12)), (5, .int y_102), (6, .int y_106)] → W p l e (rmd 5) s m args below meth c H locs 0 0 Q (F0 m 256 ls []) := by
                    intro ls hl
                    refine lv_iload hx hb dX12_solve_256 (lv_at hl 5 rfl) ?_
                    refine lv_aload_n hx hb dX12_solve_258 rfl (lv_at hl 0 rfl) ?_
                    refine mg_20 C hs hP ha0 hk0 wf_X12_286 dX12_solve_259 ?_
                    have tf_167 : 0 ≤ (f_108 20).toInt ∧ (f_108 20).toInt ≤ 65535 := hT.1 20
                    refine lv_isub hx hb dX12_solve_262 ?_
                    refine lv_topi (fun x_168 ex_168 => ?_)
                    refine lv_aload_n hx hb dX12_solve_263 rfl (lv_at hl 0 rfl) ?_
                    refine mg_20 C hs hP ha0 hk0 wf_X12_286 dX12_solve_264 ?_
                    refine lv_iand hx hb dX12_solve_267 ?_
                    refine lv_topi (fun x_169 ex_169 => ?_)
                    refine lv_istore (lv' := [(5, .int x_169), (0, .ref a0), (1, .int x1), (2, .int x2), (3, .int x3), (4, .int (f 12)), (6, .int y_106)]) hx hb dX12_solve_268 hl (by decide) rfl (fun ls hl => ?_)
                    refine lv_iload hx hb dX12_solve_270 (lv_at hl 0 rfl) ?_
                    refine bz_ne (tgt := 159) hx hb rfl dX12_solve_272 (by decide) (fun c_170 => ?_) (fun c_170 => ?_)
                    · skip
                      have g_171 := z_rng y_102
                      have g_172 := z_rng (f_108 20)
                      obtain ⟨f_168, l_168, u_168⟩ := z_sub ex_168 rfl rfl
                      try replace f_168 : x_168.toInt = y_102.toInt - (f_108 20).toInt := by omega
                      have f_d169 := z_and ex_169 rfl (by omega)
                      have g_173 := z_rng x_169
                      have hnx := sub_next ex_168 ex_169 (by omega) iv_104_0 (by rw [iv_108_4]; exact iv_104_1)
                      exact ih_103 f_108 A_108 _ _ x_169 _ (by have h9 := hnx.2.1; omega) hnx.2.2 hnx.1 (by omega) (by omega) (by omega) (by rw [iv_108_4]; exact iv_104_5) FA FF hT hP hS (lv_sub hl [0, 5, 1, 2, 3, 4] rfl)
                    · skip
                      refine lv_aload_n hx hb dX12_solve_275 rfl (lv_at hl 1 rfl) ?_
                      refine lv_iload hx hb dX12_solve_276 (lv_at hl 5 rfl) ?_
                      have g_175 := z_rng (f 12)
                      have g_176 := z_rng y_102
                      have g_177 := z_rng (f_108 20)
                      obtain ⟨f_168, l_168, u_168⟩ := z_sub ex_168 rfl rfl
                      try replace f_168 : x_168.toInt = y_102.toInt - (f_108 20).toInt := by omega
                      have f_d169 := z_and ex_169 rfl (by omega)
                      refine mp_12 C hM hs hP hS ha0 hT hk0 wf_X12_78 hb_9 (show 0 ≤ (f 12).toInt ∧ (f 12).toInt ≤ 1 from by omega) dX12_solve_278 (fun f_174 H locs hE_174 hT hP hS => ?_)
                      have FF := frF FF (frFu hE_174) (by decide)
                      have ev_178 : f_174 11 = f_108 11 := by rw [hE_174, pk_un (show 11 ≠ 12 by decide)]
                      have ev_179 : f_174 12 = f 12 := by rw [hE_174, pk_us]
                      have ev_180 : f_174 20 = f_108 20 := by rw [hE_174, pk_un (show 20 ≠ 12 by decide)]
                      have ev_181 : f_174 23 = f_108 23 := by rw [hE_174, pk_un (show 23 ≠ 12 by decide)]
                      exact maV hQ hx hb hr hlk hP hS ⟨hT, FA, FF, ⟨by rw [ev_178]; omega, by rw [ev_179], by rw [ev_180, iv_108_4]; exact iv_104_5, by rw [ev_181]; omega⟩⟩ dX12_solve_281
                  refine bi_ge (tgt := 256) hx hb rfl ti_4 dX12_solve_165 (by decide) (fun c_110 => ?_) (fun c_110 => ?_)
                  · skip
                    exact J_256_165 _ (lv_sub hl [3, 4, 5, 6, 2, 1, 0] rfl)
                  · skip
                    refine lv_aload_n hx hb dX12_solve_168 rfl (lv_at hl 3 rfl) ?_
                    refine lv_iload hx hb dX12_solve_169 (lv_at hl 1 rfl) ?_
                    have g_182 := z_rng y_102
                    have hq_183 : 0 ≤ y_102.toInt ∧ y_102.toInt ≤ 65535 := by (first | assumption | omega | (intros; omega))
                    refine zcS (zrV (As := [.int y_102]) (b := a0) (rest := []) C hs hP hS (c_X12_isBetween l D K hM f_108 A_108 hT a0 ha0 hk0 y_102 hq_183) m_X12_isBetween wm_X12_289 (zrecv hs hP ha0 (zF_11 hk0) rfl) ⟨by decide, by decide⟩ hl.1 (Nat.le_of_ble_eq_true rfl) dX12_solve_171) (fun x_184 p_184 => ?_)
                    refine bz_eq (tgt := 256) hx hb rfl dX12_solve_174 (by decide) (fun c_185 => ?_) (fun c_185 => ?_)
                    · skip
                      exact J_256_165 _ (lv_sub hl [3, 4, 5, 6, 2, 1, 0] rfl)
                    · skip
                      refine lv_iload hx hb dX12_solve_177 (lv_at hl 1 rfl) ?_
                      refine lv_iload hx hb dX12_solve_179 (lv_at hl 0 rfl) ?_
                      have g_186 := z_rng y_106
                      have hq_187 : 0 ≤ y_102.toInt ∧ y_102.toInt ≤ 65535 := by (first | assumption | omega | (intros; omega))
                      have hq_188 : 0 ≤ y_106.toInt ∧ y_106.toInt ≤ 3 := by (first | assumption | omega | (intros; omega))
                      refine zcS (zrS (As := [.int y_102, .int y_106]) (rest := []) C hs hP hS (c_X12_leftOf l D K hM f_108 A_108 hT y_102 y_106 hq_187 hq_188) m_X12_leftOf wm_X12_244 ⟨by decide, by decide⟩ hl.1 (Nat.le_of_ble_eq_true rfl) dX12_solve_181) (fun x_189 p_189 => ?_)
                      have pp_189 : 0 ≤ x_189.toInt ∧ x_189.toInt ≤ 4 ∧ (x_189.toInt ≤ 0 → nib y_102.toInt y_106.toInt = 0) ∧ (0 < x_189.toInt → y_102.toInt ≠ 0) := p_189
                      refine bz_le (tgt := 250) hx hb rfl dX12_solve_184 (by decide) (fun c_190 => ?_) (fun c_190 => ?_)
                      · skip
                        obtain ⟨x_191, ex_191⟩ : ∃ y : Int32, y = y_106 + 1 := ⟨_, rfl⟩
                        refine lv_iinc (v := x_191) (lv' := [(6, .int x_191), (5, .int y_102), (4, .int (f 12)), (0, .ref a0), (1, .int x1), (2, .int x2), (3, .int x3)]) hx hb dX12_solve_250 hl (k := 0) rfl (by rw [ex_191]; rfl) (by decide) rfl (fun ls hl => ?_)
                        refine lv_goto (tgt := 162) hx hb dX12_solve_253 (by decide) ?_
                        obtain ⟨f_191, l_191, u_191⟩ := z_add ex_191 rfl ti_1
                        try replace f_191 : x_191.toInt = y_106.toInt + 1 := by omega
                        have g_192 := z_rng x_184
                        have g_193 := z_rng x_189
                        exact ih_107 f_108 A_108 _ _ x_191 _ (by omega) (by omega) (by omega) (by omega) (by omega) iv_108_4 FA FF hT hP hS (lv_sub hl [0, 1, 2, 3, 4, 5, 6] rfl)
                      · skip
                        refine lv_aload_n hx hb dX12_solve_187 rfl (lv_at hl 3 rfl) ?_
                        refine lv_iload hx hb dX12_solve_188 (lv_at hl 1 rfl) ?_
                        refine lv_iload hx hb dX12_solve_190 (lv_at hl 0 rfl) ?_
                        have hq_194 : 0 ≤ y_102.toInt ∧ y_102.toInt ≤ 65535 := by (first | assumption | omega | (intros; omega))
                        have hq_195 : 0 ≤ y_106.toInt ∧ y_106.toInt ≤ 3 := by (first | assumption | omega | (intros; omega))
                        refine mcV (zrV (As := [.int y_102, .int y_106]) (b := a0) (rest := []) C hs hP hS (c_X12_seatAll l D K hM f_108 A_108 hT a0 ha0 hk0 y_102 y_106 hq_194 hq_195) m_X12_seatAll wm_X12_292 (zrecv hs hP ha0 (zF_11 hk0) rfl) ⟨by decide, by decide⟩ hl.1 (Nat.le_of_ble_eq_true rfl) dX12_solve_192) hS (fun f_196 A_196 H locs p_196 hP hS => ?_)
                        obtain ⟨hT, hA_196, hF_196, pp_196⟩ := p_196
                        have pp_196 : (y_102.toInt ≠ 0 → 1 ≤ (f_196 27).toInt) := pp_196
                        have FA := frA FA hA_196 (by decide)
                        have FF := frF FF hF_196 (by decide)
                        refine lv_aload_n hx hb dX12_solve_195 rfl (lv_at hl 3 rfl) ?_
                        refine lv_iload hx hb dX12_solve_196 (lv_at hl 1 rfl) ?_
                        refine mp_28 C hM hs hP hS ha0 hT hk0 wf_X12_256 (show 0 ≤ y_102.toInt ∧ y_102.toInt ≤ 65535 from by omega) dX12_solve_198 (fun f_197 H locs hE_197 hT hP hS => ?_)
                        have FF := frF FF (frFu hE_197) (by decide)
                        refine lv_aload_n hx hb dX12_solve_201 rfl (lv_at hl 3 rfl) ?_
                        refine lv_iconst (v := 0) hx hb dX12_solve_202 (by decide) ?_
                        refine mp_16 C hM hs hP hS ha0 hT hk0 wf_X12_127 (show 0 ≤ (0 : Int32).toInt ∧ (0 : Int32).toInt ≤ 4 from by rw [ti_0]; omega) dX12_solve_203 (fun f_198 H locs hE_198 hT hP hS => ?_)
                        have FF := frF FF (frFu hE_198) (by decide)
                        refine lv_aload_n hx hb dX12_solve_206 rfl (lv_at hl 3 rfl) ?_
                        refine lv_iload_n hx hb dX12_solve_207 rfl (lv_at hl 5 rfl) ?_
                        refine lv_iconst (v := 0) hx hb dX12_solve_208 (by decide) ?_
                        have g_199 := z_rng x2
                        have ev_201 : f_198 27 = f_196 27 := by rw [hE_198, pk_un (show 27 ≠ 16 by decide), hE_197, pk_un (show 27 ≠ 28 by decide)]
                        have hq_200 : 0 ≤ (0 : Int32).toInt ∧ (0 : Int32).toInt < (f_198 27).toInt := by rw [ev_201] <;> ((try simp only [ti_0]); first | assumption | omega | (intros; omega))
                        have ev_203 : f_198 16 = (0 : Int32) := by rw [hE_198, pk_us]
                        have ev_203_i : (f_198 16).toInt = 0 := by rw [ev_203, ti_0]
                        have hq_202 : (f_198 16).toInt = (0 : Int32).toInt := by rw [ev_203] <;> ((try simp only [ti_0]); first | assumption | omega | (intros; omega))
                        have ev_205 : f_198 12 = f_108 12 := by rw [hE_198, pk_un (show 12 ≠ 16 by decide), hE_197, pk_un (show 12 ≠ 28 by decide), hF_196 12 (by decide)]
                        have hq_204 : (f_198 12).toInt ≠ 0 := by rw [ev_205] <;> ((try simp only [ti_0]); first | assumption | omega | (intros; omega))
                        have ev_207 : f_198 11 = f_108 11 := by rw [hE_198, pk_un (show 11 ≠ 16 by decide), hE_197, pk_un (show 11 ≠ 28 by decide), hF_196 11 (by decide)]
                        have hq_206 : (f_198 11).toInt ≤ 1970000000 := by rw [ev_207] <;> ((try simp only [ti_0]); first | assumption | omega | (intros; omega))
                        refine mcV (zrV (As := [.int x2, .int 0]) (b := a0) (rest := []) C hs hP hS (c_X12_goThrough l D K hM f_198 A_196 hT a0 ha0 hk0 x2 0 hp0 hq_200 hq_202 hq_204 hq_206) m_X12_goThrough wm_X12_295 (zrecv hs hP ha0 (zF_11 hk0) rfl) ⟨by decide, by decide⟩ hl.1 (Nat.le_of_ble_eq_true rfl) dX12_solve_209) hS (fun f_208 A_208 H locs p_208 hP hS => ?_)
                        obtain ⟨hT, hA_208, hF_208, pp_208⟩ := p_208
                        have pp_208 : (f_198 11).toInt ≤ (f_208 11).toInt ∧ (f_208 11).toInt ≤ (f_198 11).toInt + 0 ∧ ((f_198 12).toInt ≠ 0 → (f_208 11).toInt = (f_198 11).toInt) ∧ (f_208 16).toInt = (0 : Int32).toInt := pp_208
                        have ev_209 : f_198 11 = f_108 11 := by rw [hE_198, pk_un (show 11 ≠ 16 by decide), hE_197, pk_un (show 11 ≠ 28 by decide), hF_196 11 (by decide)]
                        have ev_210 : f_198 12 = f_108 12 := by rw [hE_198, pk_un (show 12 ≠ 16 by decide), hE_197, pk_un (show 12 ≠ 28 by decide), hF_196 12 (by decide)]
                        rw [ev_209, ev_210] at pp_208
                        try simp only [ti_0] at pp_208
                        have FA := frA FA hA_208 (by decide)
                        have FF := frF FF hF_208 (by decide)
                        refine lv_aload_n hx hb dX12_solve_212 rfl (lv_at hl 3 rfl) ?_
                        refine mg_21 C hs hP ha0 hk0 wf_X12_49 dX12_solve_213 ?_
                        have hf_211 := hO.r (j := 21) ha0 hk0 (rfl : zX 11 21 = some (61, 262144))
                        refine lv_iconst (v := 4) hx hb dX12_solve_216 (by decide) ?_
                        refine lv_iload hx hb dX12_solve_217 (lv_at hl 1 rfl) ?_
                        refine lv_imul hx hb dX12_solve_219 ?_
                        refine lv_topi (fun x_212 ex_212 => ?_)
                        refine lv_iload hx hb dX12_solve_220 (lv_at hl 0 rfl) ?_
                        refine lv_iadd hx hb dX12_solve_222 ?_
                        refine lv_topi (fun x_213 ex_213 => ?_)
                        refine lv_aload_n hx hb dX12_solve_223 rfl (lv_at hl 3 rfl) ?_
                        refine mg_32 C hs hP ha0 hk0 wf_X12_72 dX12_solve_224 ?_
                        have hf_214 := hO.r (j := 32) ha0 hk0 (rfl : zX 11 32 = some (72, 4))
                        refine lv_iconst (v := 0) hx hb dX12_solve_227 (by decide) ?_
                        have hin_215 : vp_in 0 (zn K (zr K a0 32)) := vp_in_iff.mpr (by rw [ti_0, (hf_214.2.2 (by decide))]; decide)
                        refine mld_72 C hs hP hf_214.1 hf_214.2.1 hin_215 dX12_solve_228 ?_
                        have ep_216 : (0 : Int32).toNatClampNeg = 0 := by decide +kernel
                        rw [ep_216]
                        obtain ⟨x_217, ex_217⟩ : ∃ z : Int32, (A_208 72 0).toInt8.toInt32 = z := ⟨_, rfl⟩
                        refine lv_i2b hx hb dX12_solve_229 ex_217 ?_
                        obtain ⟨f_212, l_212, u_212⟩ := z_mul ex_212 ti_4 rfl
                        try replace f_212 : x_212.toInt = 4 * y_102.toInt := by omega
                        obtain ⟨f_213, l_213, u_213⟩ := z_add ex_213 rfl rfl
                        try replace f_213 : x_213.toInt = x_212.toInt + y_106.toInt := by omega
                        have hin_218 : vp_in x_213 (zn K (zr K a0 21)) := vp_in_iff.mpr (by rw [(hf_211.2.2 (by decide))]; refine ⟨?_, ?_⟩ <;> omega)
                        refine mst_61 C hM hs hP hS hf_211.1 hT hf_211.2.1 hin_218 trivial dX12_solve_230 (fun A_219 H locs hE_219 hT hP hS => ?_)
                        have FA := frA FA (frAu hE_219) (by decide)
                        refine lv_aload_n hx hb dX12_solve_231 rfl (lv_at hl 3 rfl) ?_
                        refine mg_22 C hs hP ha0 hk0 wf_X12_53 dX12_solve_232 ?_
                        have hf_220 := hO.r (j := 22) ha0 hk0 (rfl : zX 11 22 = some (62, 262144))
                        refine lv_iconst (v := 4) hx hb dX12_solve_235 (by decide) ?_
                        refine lv_iload hx hb dX12_solve_236 (lv_at hl 1 rfl) ?_
                        refine lv_imul hx hb dX12_solve_238 ?_
                        refine lv_topi (fun x_221 ex_221 => ?_)
                        refine lv_iload hx hb dX12_solve_239 (lv_at hl 0 rfl) ?_
                        refine lv_iadd hx hb dX12_solve_241 ?_
                        refine lv_topi (fun x_222 ex_222 => ?_)
                        refine lv_aload_n hx hb dX12_solve_242 rfl (lv_at hl 3 rfl) ?_
                        refine mg_33 C hs hP ha0 hk0 wf_X12_75 dX12_solve_243 ?_
                        have hf_223 := hO.r (j := 33) ha0 hk0 (rfl : zX 11 33 = some (73, 4))
                        refine lv_iconst (v := 0) hx hb dX12_solve_246 (by decide) ?_
                        have hin_224 : vp_in 0 (zn K (zr K a0 33)) := vp_in_iff.mpr (by rw [ti_0, (hf_223.2.2 (by decide))]; decide)
                        refine mld_73 C hs hP hf_223.1 hf_223.2.1 hin_224 dX12_solve_247 ?_
                        have ep_225 : (0 : Int32).toNatClampNeg = 0 := by decide +kernel
                        rw [ep_225]
                        have ev_226 : A_219 73 0 = A_208 73 0 := by rw [hE_219, va_up_ne _ _ (show 73 ≠ 61 by decide)]
                        rw [ev_226]
                        obtain ⟨x_227, ex_227⟩ : ∃ z : Int32, (A_208 73 0).toInt8.toInt32 = z := ⟨_, rfl⟩
                        refine lv_i2b hx hb dX12_solve_248 ex_227 ?_
                        obtain ⟨f_221, l_221, u_221⟩ := z_mul ex_221 ti_4 rfl
                        try replace f_221 : x_221.toInt = 4 * y_102.toInt := by omega
                        obtain ⟨f_222, l_222, u_222⟩ := z_add ex_222 rfl rfl
                        try replace f_222 : x_222.toInt = x_221.toInt + y_106.toInt := by omega
                        have hin_228 : vp_in x_222 (zn K (zr K a0 22)) := vp_in_iff.mpr (by rw [(hf_220.2.2 (by decide))]; refine ⟨?_, ?_⟩ <;> omega)
                        refine mst_62 C hM hs hP hS hf_220.1 hT hf_220.2.1 hin_228 trivial dX12_solve_249 (fun A_229 H locs hE_229 hT hP hS => ?_)
                        have FA := frA FA (frAu hE_229) (by decide)
                        obtain ⟨x_230, ex_230⟩ : ∃ y : Int32, y = y_106 + 1 := ⟨_, rfl⟩
                        refine lv_iinc (v := x_230) (lv' := [(6, .int x_230), (5, .int y_102), (4, .int (f 12)), (0, .ref a0), (1, .int x1), (2, .int x2), (3, .int x3)]) hx hb dX12_solve_250 hl (k := 0) rfl (by rw [ex_230]; rfl) (by decide) rfl (fun ls hl => ?_)
                        refine lv_goto (tgt := 162) hx hb dX12_solve_253 (by decide) ?_
                        obtain ⟨f_230, l_230, u_230⟩ := z_add ex_230 rfl ti_1
                        try replace f_230 : x_230.toInt = y_106.toInt + 1 := by omega
                        have g_231 := z_rng x_184
                        have g_232 := z_rng x_189
                        have ev_233 : f_208 20 = f_108 20 := by rw [hF_208 20 (by decide), hE_198, pk_un (show 20 ≠ 16 by decide), hE_197, pk_un (show 20 ≠ 28 by decide), hF_196 20 (by decide)]
                        have ev_234 : f_208 12 = f_108 12 := by rw [hF_208 12 (by decide), hE_198, pk_un (show 12 ≠ 16 by decide), hE_197, pk_un (show 12 ≠ 28 by decide), hF_196 12 (by decide)]
                        have ev_235 : f_208 23 = f_108 23 := by rw [hF_208 23 (by decide), hE_198, pk_un (show 23 ≠ 16 by decide), hE_197, pk_un (show 23 ≠ 28 by decide), hF_196 23 (by decide)]
                        exact ih_107 f_208 A_229 _ _ x_230 _ (by omega) (by omega) (by omega) (by rw [ev_234] <;> first | omega | decide) (by rw [ev_235] <;> first | omega | decide) (by rw [ev_233]; exact iv_108_4) FA FF hT hP hS (lv_sub hl [0, 1, 2, 3, 4, 5, 6] rfl)
              exact L_162_107 _ f_104 A_104 _ _ 0 _ (Nat.lt_succ_self _) (by (try simp only [ti_0]); omega) (by omega) (by omega) (by omega) rfl FA FF hT hP hS (lv_sub hl [0, 1, 2, 3, 4, 5, 6] rfl)
          have g_236 := z_rng y_13
          exact L_159_103 _ f_15 A_15 _ _ 0 _ (Nat.lt_succ_self _) (by rw [ti_0]; decide) (z_0and _) (by omega) (by omega) (by omega) (fun q h1 h2 h3 => iv_15_5 q h1 (by omega) h3) FA FF hT hP hS (lv_sub hl [0, 1, 2, 3, 4, 5] rfl)
        · skip
          refine lv_aload_n hx hb dX12_solve_57 rfl (lv_at hl 2 rfl) ?_
          refine mg_19 C hs hP ha0 hk0 wf_X12_45 dX12_solve_58 ?_
          have hf_237 := hO.r (j := 19) ha0 hk0 (rfl : zX 11 19 = some (59, 4))
          refine lv_iload hx hb dX12_solve_61 (lv_at hl 0 rfl) ?_
          refine lv_iconst (v := 0) hx hb dX12_solve_63 (by decide) ?_
          refine lv_aload_n hx hb dX12_solve_64 rfl (lv_at hl 2 rfl) ?_
          refine mg_0 C hs hP ha0 hk0 wf_X12_8 dX12_solve_65 ?_
          have hf_238 := hO.r (j := 0) ha0 hk0 (rfl : zX 11 0 = some (40, 47730))
          refine lv_iload_n hx hb dX12_solve_68 rfl (lv_at hl 4 rfl) ?_
          refine lv_bipush (v := 22) hx hb dX12_solve_69 (by decide) ?_
          refine lv_iadd hx hb dX12_solve_71 ?_
          refine lv_topi (fun x_239 ex_239 => ?_)
          refine lv_iload hx hb dX12_solve_72 (lv_at hl 0 rfl) ?_
          refine lv_iadd hx hb dX12_solve_74 ?_
          refine lv_topi (fun x_240 ex_240 => ?_)
          have g_241 := z_rng x2
          obtain ⟨f_239, l_239, u_239⟩ := z_add ex_239 rfl ti_22
          try replace f_239 : x_239.toInt = x2.toInt + 22 := by omega
          have g_242 := z_rng y_13
          obtain ⟨f_240, l_240, u_240⟩ := z_add ex_240 rfl rfl
          try replace f_240 : x_240.toInt = x_239.toInt + y_13.toInt := by omega
          have hi_hr_243 : x_240.toInt = x2.toInt + (y_13.toInt + 22) := by omega
          have hr_243 := z_cell (lo := 22) (hi := 25) hp0 hi_hr_243 (by omega) (by decide)
          have hin_244 : vp_in x_240 (zn K (zr K a0 0)) := vp_in_iff.mpr (by rw [(hf_238.2.2 (by decide))]; exact hr_243.in)
          refine mld_40 C hs hP hf_238.1 hf_238.2.1 hin_244 dX12_solve_75 ?_
          have ep_245 : x_240.toNatClampNeg = (x2.toInt + y_13.toInt + 22).toNat := z_pos (hi_hr_243.trans (by omega))
          rw [ep_245]
          have ev_246 : A_15 40 (x2.toInt + y_13.toInt + 22).toNat = A 40 (x2.toInt + y_13.toInt + 22).toNat := by rw [FA_15 40 (by decide)]
          have tv_247 := rv_22 hT hr_243
          rw [ep_245] at tv_247
          rw [ev_246] at tv_247
          rw [ev_246]
          refine zcS (zrS (As := [.int 0, .int (A 40 (x2.toInt + y_13.toInt + 22).toNat)]) (rest := [.int y_13, .ref (zr K a0 19)]) C hs hP hS (c_X12_most l D K hM f_15 A_15 hT 0 (A 40 (x2.toInt + y_13.toInt + 22).toNat)) m_X12_most wm_X12_247 ⟨by decide, by decide⟩ hl.1 (Nat.le_of_ble_eq_true rfl) dX12_solve_76) (fun x_248 p_248 => ?_)
          have pp_248 : (0 : Int32).toInt ≤ x_248.toInt ∧ (A 40 (x2.toInt + y_13.toInt + 22).toNat).toInt ≤ x_248.toInt ∧ (x_248.toInt = (0 : Int32).toInt ∨ x_248.toInt = (A 40 (x2.toInt + y_13.toInt + 22).toNat).toInt) := p_248
          try simp only [ti_0] at pp_248
          have g_249 := z_rng (A 40 (x2.toInt + y_13.toInt + 22).toNat)
          have hh_248 : (A 40 (x2.toInt + y_13.toInt + 22).toNat).toInt ≤ 4 := hp1 y_13.toInt (by omega) (by omega)
          have hin_250 : vp_in y_13 (zn K (zr K a0 19)) := vp_in_iff.mpr (by rw [(hf_237.2.2 (by decide))]; refine ⟨?_, ?_⟩ <;> omega)
          refine mst_59 C hM hs hP hS hf_237.1 hT hf_237.2.1 hin_250 trivial dX12_solve_79 (fun A_251 H locs hE_251 hT hP hS => ?_)
          have FA := frA FA (frAu hE_251) (by decide)
          refine lv_iconst (v := 0) hx hb dX12_solve_80 (by decide) ?_
          refine lv_istore (lv' := [(6, .int 0), (5, .int y_13), (4, .int (f 12)), (0, .ref a0), (1, .int x1), (2, .int x2), (3, .int x3)]) hx hb dX12_solve_81 hl (by decide) rfl (fun ls hl => ?_)
          have L_83_253 : ∀ (n_253 : Nat) (f_254 : Nat → Int32) (A_254 : Nat → Nat → Int32) (H : Heap) (locs : List Loc) (y_252 : Int32) (ls : Array Slot), (2147483648 - y_252.toInt).toNat < n_253 → 0 ≤ y_252.toInt → (f_254 11).toInt = (f 11).toInt → (f_254 12).toInt = 1 → (f_254 23).toInt = x1.toInt → (f_15 20).toInt ≤ (f_254 20).toInt → (1 ≤ y_252.toInt → 0 < (f_254 20).toInt) → (A_254 59 y_13.toNatClampNeg).toInt = x_248.toInt → (∀ k, k ∉ ([50, 53, 55, 58, 59, 61, 62, 66, 69, 70, 71, 72, 73] : List Nat) → A_254 k = A k) → (∀ k, k ∉ ([11, 12, 14, 16, 20, 23, 24, 25, 27, 28, 34, 35] : List Nat) → f_254 k = f k) → mT f_254 A_254 → va_P D vwCl (zW K (mV K f_254 A_254)) H → va_S (zA K) s.heap H locs → lv_has ls 7 [(6, .int y_252), (5, .int y_13), (4, .int (f 12)), (0, .ref a0), (1, .int x1), (2, .int x2), (3, .int x3)] → W p l e (rmd 5) s m args below meth c H locs 0 0 Q (F0 m 83 ls []) := by
            intro n_253
            induction n_253 with
            | zero => intro f_254 A_254 H locs y_252 ls hm_253; exact absurd hm_253 (Nat.not_lt_zero _)
            | succ n_253 ih_253 =>
              intro f_254 A_254 H locs y_252 ls hm_253 iv_254_0 iv_254_1 iv_254_2 iv_254_3 iv_254_4 iv_254_5 iv_254_6 FA_254 FF_254 hT hP hS hl
              have FA := FA_254
              have FF := FF_254
              refine lv_iload hx hb dX12_solve_83 (lv_at hl 0 rfl) ?_
              refine lv_aload_n hx hb dX12_solve_85 rfl (lv_at hl 3 rfl) ?_
              refine mg_19 C hs hP ha0 hk0 wf_X12_45 dX12_solve_86 ?_
              refine lv_iload hx hb dX12_solve_89 (lv_at hl 1 rfl) ?_
              have hin_256 : vp_in y_13 (zn K (zr K a0 19)) := vp_in_iff.mpr (by rw [(hf_237.2.2 (by decide))]; refine ⟨?_, ?_⟩ <;> omega)
              refine mld_59 C hs hP hf_237.1 hf_237.2.1 hin_256 dX12_solve_91 ?_
              refine bi_ge (tgt := 150) hx hb rfl rfl dX12_solve_92 (by decide) (fun c_257 => ?_) (fun c_257 => ?_)
              · skip
                obtain ⟨x_287, ex_287⟩ : ∃ y : Int32, y = y_13 + 1 := ⟨_, rfl⟩
                refine lv_iinc (v := x_287) (lv' := [(5, .int x_287), (6, .int y_252), (4, .int (f 12)), (0, .ref a0), (1, .int x1), (2, .int x2), (3, .int x3)]) hx hb dX12_solve_150 hl (k := 1) rfl (by rw [ex_287]; rfl) (by decide) rfl (fun ls hl => ?_)
                refine lv_goto (tgt := 51) hx hb dX12_solve_153 (by decide) ?_
                obtain ⟨f_287, l_287, u_287⟩ := z_add ex_287 rfl ti_1
                try replace f_287 : x_287.toInt = y_13.toInt + 1 := by omega
                have g_288 := z_rng (A_254 59 y_13.toNatClampNeg)
                have g_289 := z_rng y_252
                exact ih_14 f_254 A_254 _ _ x_287 _ (by omega) (by omega) (by omega) (by omega) (by omega) (by omega) (aOkN.s iv_15_5 (by omega) (by omega) (fun h9 => by omega)) FA FF hT hP hS (lv_sub hl [0, 2, 3, 4, 5, 6] rfl)
              · skip
                refine lv_aload_n hx hb dX12_solve_95 rfl (lv_at hl 3 rfl) ?_
                refine mg_18 C hs hP ha0 hk0 wf_X12_42 dX12_solve_96 ?_
                have hf_290 := hO.r (j := 18) ha0 hk0 (rfl : zX 11 18 = some (58, 16))
                refine lv_iconst (v := 4) hx hb dX12_solve_99 (by decide) ?_
                refine lv_iload hx hb dX12_solve_100 (lv_at hl 1 rfl) ?_
                refine lv_imul hx hb dX12_solve_102 ?_
                refine lv_topi (fun x_291 ex_291 => ?_)
                refine lv_iload hx hb dX12_solve_103 (lv_at hl 0 rfl) ?_
                refine lv_iadd hx hb dX12_solve_105 ?_
                refine lv_topi (fun x_292 ex_292 => ?_)
                refine lv_aload_n hx hb dX12_solve_106 rfl (lv_at hl 3 rfl) ?_
                refine mg_0 C hs hP ha0 hk0 wf_X12_8 dX12_solve_107 ?_
                refine lv_iload_n hx hb dX12_solve_110 rfl (lv_at hl 5 rfl) ?_
                refine lv_sipush (v := 230) hx hb dX12_solve_111 (by decide) ?_
                refine lv_iadd hx hb dX12_solve_114 ?_
                refine lv_topi (fun x_293 ex_293 => ?_)
                refine lv_bipush (v := 60) hx hb dX12_solve_115 (by decide) ?_
                refine lv_iload hx hb dX12_solve_117 (lv_at hl 1 rfl) ?_
                refine lv_imul hx hb dX12_solve_119 ?_
                refine lv_topi (fun x_294 ex_294 => ?_)
                refine lv_iadd hx hb dX12_solve_120 ?_
                refine lv_topi (fun x_295 ex_295 => ?_)
                refine lv_iload hx hb dX12_solve_121 (lv_at hl 0 rfl) ?_
                refine lv_iadd hx hb dX12_solve_123 ?_
                refine lv_topi (fun x_296 ex_296 => ?_)
                obtain ⟨f_293, l_293, u_293⟩ := z_add ex_293 rfl ti_230
                try replace f_293 : x_293.toInt = x2.toInt + 230 := by omega
                obtain ⟨f_294, l_294, u_294⟩ := z_mul ex_294 ti_60 rfl
                try replace f_294 : x_294.toInt = 60 * y_13.toInt := by omega
                obtain ⟨f_295, l_295, u_295⟩ := z_add ex_295 rfl rfl
                try replace f_295 : x_295.toInt = x_293.toInt + x_294.toInt := by omega
                have g_297 := z_rng y_252
                obtain ⟨f_296, l_296, u_296⟩ := z_add ex_296 rfl rfl
                try replace f_296 : x_296.toInt = x_295.toInt + y_252.toInt := by omega
                have hi_hr_298 : x_296.toInt = x2.toInt + (60 * y_13.toInt + y_252.toInt + 230) := by omega
                have hr_298 := z_cell (lo := 170) (hi := 469) hp0 hi_hr_298 (by omega) (by decide)
                have hin_299 : vp_in x_296 (zn K (zr K a0 0)) := vp_in_iff.mpr (by rw [(hf_238.2.2 (by decide))]; exact hr_298.in)
                refine mld_40 C hs hP hf_238.1 hf_238.2.1 hin_299 dX12_solve_124 ?_
                have ep_300 : x_296.toNatClampNeg = (x2.toInt + 60 * y_13.toInt + y_252.toInt + 230).toNat := z_pos (hi_hr_298.trans (by omega))
                rw [ep_300]
                have ev_301 : A_254 40 (x2.toInt + 60 * y_13.toInt + y_252.toInt + 230).toNat = A 40 (x2.toInt + 60 * y_13.toInt + y_252.toInt + 230).toNat := by rw [FA_254 40 (by decide)]
                have tv_302 := rv_170 hT hr_298
                rw [ep_300] at tv_302
                rw [ev_301] at tv_302
                rw [ev_301]
                obtain ⟨f_291, l_291, u_291⟩ := z_mul ex_291 ti_4 rfl
                try replace f_291 : x_291.toInt = 4 * y_13.toInt := by omega
                obtain ⟨f_292, l_292, u_292⟩ := z_add ex_292 rfl rfl
                try replace f_292 : x_292.toInt = x_291.toInt + y_252.toInt := by omega
                have hin_303 : vp_in x_292 (zn K (zr K a0 18)) := vp_in_iff.mpr (by rw [(hf_290.2.2 (by decide))]; refine ⟨?_, ?_⟩ <;> omega)
                have g_305 := z_rng (A 40 (x2.toInt + 60 * y_13.toInt + y_252.toInt + 230).toNat)
                refine mst_58 C hM hs hP hS hf_290.1 hT hf_290.2.1 hin_303 (show 0 ≤ (A 40 (x2.toInt + 60 * y_13.toInt + y_252.toInt + 230).toNat).toInt ∧ (A 40 (x2.toInt + 60 * y_13.toInt + y_252.toInt + 230).toNat).toInt ≤ 59 from by omega) dX12_solve_125 (fun A_304 H locs hE_304 hT hP hS => ?_)
                have FA := frA FA (frAu hE_304) (by decide)
                refine lv_aload_n hx hb dX12_solve_126 rfl (lv_at hl 3 rfl) ?_
                refine lv_dup hx hb dX12_solve_127 rfl ?_
                refine mg_20 C hs hP ha0 hk0 wf_X12_286 dX12_solve_128 ?_
                have tf_306 : 0 ≤ (f_254 20).toInt ∧ (f_254 20).toInt ≤ 65535 := hT.1 20
                refine lv_iconst (v := 1) hx hb dX12_solve_131 (by decide) ?_
                refine lv_iconst (v := 4) hx hb dX12_solve_132 (by decide) ?_
                refine lv_iload hx hb dX12_solve_133 (lv_at hl 1 rfl) ?_
                refine lv_imul hx hb dX12_solve_135 ?_
                refine lv_topi (fun x_307 ex_307 => ?_)
                refine lv_iload hx hb dX12_solve_136 (lv_at hl 0 rfl) ?_
                refine lv_iadd hx hb dX12_solve_138 ?_
                refine lv_topi (fun x_308 ex_308 => ?_)
                refine lv_ishl hx hb dX12_solve_139 ?_
                refine lv_topi (fun x_309 ex_309 => ?_)
                refine lv_ior hx hb dX12_solve_140 ?_
                refine lv_topi (fun x_310 ex_310 => ?_)
                have g_312 := z_rng (f_254 20)
                obtain ⟨f_307, l_307, u_307⟩ := z_mul ex_307 ti_4 rfl
                try replace f_307 : x_307.toInt = 4 * y_13.toInt := by omega
                obtain ⟨f_308, l_308, u_308⟩ := z_add ex_308 rfl rfl
                try replace f_308 : x_308.toInt = x_307.toInt + y_252.toInt := by omega
                have f_d309 := z_shl1 ex_309 (by omega)
                have f_d310 := z_or16 ex_310 (by omega) (by omega)
                refine mp_20 C hM hs hP hS ha0 hT hk0 wf_X12_286 (show 0 ≤ x_310.toInt ∧ x_310.toInt ≤ 65535 from by omega) dX12_solve_141 (fun f_311 H locs hE_311 hT hP hS => ?_)
                have FF := frF FF (frFu hE_311) (by decide)
                obtain ⟨x_313, ex_313⟩ : ∃ y : Int32, y = y_252 + 1 := ⟨_, rfl⟩
                refine lv_iinc (v := x_313) (lv' := [(6, .int x_313), (5, .int y_13), (4, .int (f 12)), (0, .ref a0), (1, .int x1), (2, .int x2), (3, .int x3)]) hx hb dX12_solve_144 hl (k := 0) rfl (by rw [ex_313]; rfl) (by decide) rfl (fun ls hl => ?_)
                refine lv_goto (tgt := 83) hx hb dX12_solve_147 (by decide) ?_
                obtain ⟨f_313, l_313, u_313⟩ := z_add ex_313 rfl ti_1
                try replace f_313 : x_313.toInt = y_252.toInt + 1 := by omega
                have g_314 := z_rng (A_254 59 y_13.toNatClampNeg)
                have ev_315 : f_311 11 = f_254 11 := by rw [hE_311, pk_un (show 11 ≠ 20 by decide)]
                have ev_316 : f_311 12 = f_254 12 := by rw [hE_311, pk_un (show 12 ≠ 20 by decide)]
                have ev_317 : f_311 23 = f_254 23 := by rw [hE_311, pk_un (show 23 ≠ 20 by decide)]
                have ev_318 : f_311 20 = x_310 := by rw [hE_311, pk_us]
                have ev_319 : A_304 59 y_13.toNatClampNeg = A_254 59 y_13.toNatClampNeg := by rw [hE_304, va_up_ne _ _ (show 59 ≠ 58 by decide)]
                exact ih_253 f_311 A_304 _ _ x_313 _ (by omega) (by omega) (by rw [ev_315] <;> first | omega | decide) (by rw [ev_316] <;> first | omega | decide) (by rw [ev_317] <;> first | omega | decide) (by rw [ev_318]; omega) (fun h9 => by rw [ev_318]; omega) (by rw [ev_319]; exact iv_254_6) FA FF hT hP hS (lv_sub hl [0, 1, 2, 3, 4, 5, 6] rfl)
          have ev_320 : A_251 59 y_13.toNatClampNeg = x_248 := by rw [hE_251, va_up_self, pk_us]
          exact L_83_253 _ f_15 A_251 _ _ 0 _ (Nat.lt_succ_self _) (by (try simp only [ti_0]); omega) (by omega) (by omega) (by omega) (by omega) (fun h9 => by rw [ti_0] at h9; omega) (by rw [ev_320]) FA FF hT hP hS (lv_sub hl [0, 1, 2, 3, 4, 5, 6] rfl)
    have ev_321 : f_12 11 = f 11 := by rw [hE_12, pk_un (show 11 ≠ 20 by decide), hE_11, pk_un (show 11 ≠ 12 by decide), hE_7, pk_un (show 11 ≠ 25 by decide), hE_6, pk_un (show 11 ≠ 24 by decide), hE_5, pk_un (show 11 ≠ 23 by decide)]
    have ev_322 : f_12 12 = (1 : Int32) := by rw [hE_12, pk_un (show 12 ≠ 20 by decide), hE_11, pk_us]
    have ev_322_i : (f_12 12).toInt = 1 := by rw [ev_322, ti_1]
    have ev_323 : f_12 23 = x1 := by rw [hE_12, pk_un (show 23 ≠ 20 by decide), hE_11, pk_un (show 23 ≠ 12 by decide), hE_7, pk_un (show 23 ≠ 25 by decide), hE_6, pk_un (show 23 ≠ 24 by decide), hE_5, pk_us]
    have g_324 := z_rng x1
    exact L_51_14 _ f_12 A _ _ 0 _ (Nat.lt_succ_self _) (by (try simp only [ti_0]); omega) (by rw [ti_0]; decide) (by rw [ev_321] <;> first | omega | decide) (by rw [ev_322] <;> first | omega | decide) (by rw [ev_323] <;> first | omega | decide) (aOkN.z (by rw [ti_0]; decide)) FA FF hT hP hS (lv_sub hl [0, 1, 2, 3, 4, 5] rfl)
  refine bi_ne (tgt := 17) hx hb rfl rfl dX12_solve_5 (by decide) (fun c_1 => ?_) (fun c_1 => ?_)
  · skip
    exact J_17_3 _ (lv_sub hl [0, 1, 2, 3] rfl)
  · skip
    refine lv_aload_n hx hb dX12_solve_8 rfl (lv_at hl 0 rfl) ?_
    refine mg_24 C hs hP ha0 hk0 wf_X12_283 dX12_solve_9 ?_
    refine lv_iload_n hx hb dX12_solve_12 rfl (lv_at hl 3 rfl) ?_
    refine bi_ne (tgt := 17) hx hb rfl rfl dX12_solve_13 (by decide) (fun c_325 => ?_) (fun c_325 => ?_)
    · skip
      exact J_17_3 _ (lv_sub hl [0, 1, 2, 3] rfl)
    · skip
      exact maV hQ hx hb hr hlk hP hS ⟨hT, FA, FF, ⟨rfl, rfl, hp2 c_1, c_1⟩⟩ dX12_solve_16
