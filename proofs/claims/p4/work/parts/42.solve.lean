set_option maxHeartbeats 4000000 in
set_option maxRecDepth 100000 in
theorem c_X12_solve (l : Launch) (D : va_G) (K : zK) (hM : mK K) (f : Nat → Int32) (A : Nat → Nat → Int32) (hT : mT f A) (a0 : Nat) (ha0 : a0 ∈ zl K) (hk0 : zk K a0 = 11) (x1 : Int32) (x2 : Int32) (x3 : Int32) (hp0 : zRow x2.toInt) (hp1 : h4 (A 40) x2.toInt 4) (hp2 : ((f 23).toInt = x1.toInt → aOk (A 40) x2.toInt (f 20).toInt)) (hp3 : (f 11).toInt ≤ 1960000000) : Met l yX12_solve (zc yX12_solve cX12_solve 7 none) (rmd 5) (va_Pc [.ref a0, .int x1, .int x2, .int x3] (zB D K (mV K f A))) (mQv D K (fun f' A' => mT f' A' ∧ (∀ k, k ∉ ([50, 53, 55, 58, 59, 61, 62, 66, 69, 70, 71, 72, 73] : List Nat) → A' k = A k) ∧ (∀ k, k ∉ ([11, 12, 14, 16, 20, 23, 24, 25, 27, 28, 34, 35] : List Nat) → f' k = f k) ∧ (f' 11).toInt = (f 11).toInt ∧ (f' 12).toInt = (f 12).toInt ∧ aOk (A 40) x2.toInt (f' 20).toInt ∧ (f' 23).toInt = x1.toInt)) 0 0 (zA K) := by
  refine zin (by decide) (Nat.le_of_ble_eq_true rfl) ?_
  intro p e s m args below meth c ls Q hQ C hr hlk hP hs hl
  have C : CallFix p m c cX12_solve 7 s args zw RX12 := C
  obtain ⟨hx, hb, hml, hown, hts⟩ := id C
  have hO := hM.1
  have hS : va_S (zA K) s.heap s.heap [] := va_S.rf
  have FA : ∀ k, k ∉ ([50, 53, 55, 58, 59, 61, 62, 66, 69, 70, 71, 72, 73] : List Nat) → A k = A k := fun _ _ => rfl
  have FF : ∀ k, k ∉ ([11, 12, 14, 16, 20, 23, 24, 25, 27, 28, 34, 35] : List Nat) → f k = f k := fun _ _ => rfl
  have hl : lv_has ls 7 [(0, .ref a0), (1, .int x1), (2, .int x2), (3, .int x3)] := hl
  have hb0 := hp0.lin
  refine lv_aload_n hx hb dX12_solve_0 rfl (lv_at hl 0 rfl) ?_
  refine mg_23 C hs hP ha0 hk0 wf_X12_56 dX12_solve_1 ?_
  refine lv_iload_n hx hb dX12_solve_4 rfl (lv_at hl 1 rfl) ?_
  have J_17_3 : ∀ (ls : Array Slot), lv_has ls 7 [(0, .ref a0), (1, .int x1), (2, .int x2), (3, .int x3)] → W p l e (rmd 5) s m args below meth c s.heap [] 0 0 Q (F0 m 17 ls []) := by
    intro ls hl
    refine lv_aload_n hx hb dX12_solve_17 rfl (lv_at hl 0 rfl) ?_
    refine lv_iload_n hx hb dX12_solve_18 rfl (lv_at hl 1 rfl) ?_
    refine mp_23 C hM hs hP hS ha0 hT hk0 wf_X12_56 trivial dX12_solve_19 (fun f_5 H locs hE_5 hT hP hS => ?_)
    have FF := frF FF (frFu hE_5) (by decide)
    refine lv_aload_n hx hb dX12_solve_22 rfl (lv_at hl 0 rfl) ?_
    refine lv_iload_n hx hb dX12_solve_23 rfl (lv_at hl 3 rfl) ?_
    refine mp_24 C hM hs hP hS ha0 hT hk0 wf_X12_283 trivial dX12_solve_24 (fun f_6 H locs hE_6 hT hP hS => ?_)
    have FF := frF FF (frFu hE_6) (by decide)
    refine lv_aload_n hx hb dX12_solve_27 rfl (lv_at hl 0 rfl) ?_
    refine lv_iload_n hx hb dX12_solve_28 rfl (lv_at hl 3 rfl) ?_
    refine mp_25 C hM hs hP hS ha0 hT hk0 wf_X12_262 trivial dX12_solve_29 (fun f_7 H locs hE_7 hT hP hS => ?_)
    have FF := frF FF (frFu hE_7) (by decide)
    refine lv_aload_n hx hb dX12_solve_32 rfl (lv_at hl 0 rfl) ?_
    refine mg_12 C hs hP ha0 hk0 wf_X12_78 dX12_solve_33 ?_
    have ev_8 : f_7 12 = f 12 := by rw [hE_7, pk_un (show 12 ≠ 25 by decide), hE_6, pk_un (show 12 ≠ 24 by decide), hE_5, pk_un (show 12 ≠ 23 by decide)]
    rw [ev_8]
    have hb_9 : f 12 = 0 ∨ f 12 = 1 := z_b01 (by rw [← ev_8]; exact hT.1 12)
    have tf_10 : 0 ≤ (f 12).toInt ∧ (f 12).toInt ≤ 1 := by rw [← ev_8]; exact hT.1 12
    refine lv_istore (lv' := [(4, .int (f 12)), (0, .ref a0), (1, .int x1), (2, .int x2), (3, .int x3)]) hx hb dX12_solve_36 hl (by decide) rfl (fun ls hl => ?_)
    refine lv_aload_n hx hb dX12_solve_38 rfl (lv_at hl 1 rfl) ?_
    refine lv_iconst (v := 1) hx hb dX12_solve_39 (by decide) ?_
    refine mp_12 C hM hs hP hS ha0 hT hk0 wf_X12_78 (Or.inr rfl) (show 0 ≤ (1 : Int32).toInt ∧ (1 : Int32).toInt ≤ 1 from by rw [ti_1]; omega) dX12_solve_40 (fun f_11 H locs hE_11 hT hP hS => ?_)
    have FF := frF FF (frFu hE_11) (by decide)
    refine lv_aload_n hx hb dX12_solve_43 rfl (lv_at hl 1 rfl) ?_
    refine lv_iconst (v := 0) hx hb dX12_solve_44 (by decide) ?_
    refine mp_20 C hM hs hP hS ha0 hT hk0 wf_X12_286 (show 0 ≤ (0 : Int32).toInt ∧ (0 : Int32).toInt ≤ 65535 from by rw [ti_0]; omega) dX12_solve_45 (fun f_12 H locs hE_12 hT hP hS => ?_)
    have FF := frF FF (frFu hE_12) (by decide)
    refine lv_iconst (v := 0) hx hb dX12_solve_48 (by decide) ?_
    refine lv_istore (lv' := [(5, .int 0), (4, .int (f 12)), (0, .ref a0), (1, .int x1), (2, .int x2), (3, .int x3)]) hx hb dX12_solve_49 hl (by decide) rfl (fun ls hl => ?_)
    have L_51_14 : ∀ (n_14 : Nat) (f_15 : Nat → Int32) (A_15 : Nat → Nat → Int32) (H : Heap) (locs : List Loc) (y_13 : Int32) (ls : Array Slot), (2147483648 - y_13.toInt).toNat < n_14 → 0 ≤ y_13.toInt → y_13.toInt ≤ 4 → (f_15 11).toInt = (f 11).toInt → (f_15 12).toInt = 1 → (f_15 23).toInt = x1.toInt → aOkN (A 40) x2.toInt (f_15 20).toInt y_13.toInt → (∀ k, k ∉ ([50, 53, 55, 58, 59, 61, 62, 66, 69, 70, 71, 72, 73] : List Nat) → A_15 k = A k) → (∀ k, k ∉ ([11, 12, 14, 16, 20, 23, 24, 25, 27, 28, 34, 35] : List Nat) → f_15 k = f k) → mT f_15 A_15 → va_P D vwCl (zW K (mV K f_15 A_15)) H → va_S (zA K) s.heap H locs → lv_has ls 7 [(5, .int y_13), (4, .int (f 12)), (0, .ref a0), (1, .int x1), (2, .int x2), (3, .int x3)] → W p l e (rmd 5) s m args below meth c H locs 0 0 Q (F0 m 51 ls []) := by
      intro n_14
      induction n_14 with
      | zero => intro f_15 A_15 H locs y_13 ls hm_14; exact absurd hm_14 (Nat.not_lt_zero _)
      | succ n_14 ih_14 =>
        intro f_15 A_15 H locs y_13 ls hm_14 iv_15_0 iv_15_1 iv_15_2 iv_15_3 iv_15_4 iv_15_5 FA_15 FF_15 hT hP hS hl
        have FA := FA_15
        have FF := FF_15
        refine lv_iload hx hb dX12_solve_51 (lv_at hl 0 rfl) ?_
        refine lv_iconst (v := 4) hx hb dX12_solve_53 (by decide) ?_
        refine bi_ge (tgt := 156) hx hb rfl ti_4 dX12_solve_54 (by decide) (fun c_17 => ?_) (fun c_17 => ?_)
        · skip
          refine lv_iconst (v := 0) hx hb dX12_solve_156 (by decide) ?_
          refine lv_istore (lv' := [(5, .int 0), (4, .int (f 12)), (0, .ref a0), (1, .int x1), (2, .int x2), (3, .int x3)]) hx hb dX12_solve_157 hl (by decide) rfl (fun ls hl => ?_)
          have L_159_114 : ∀ (n_114 : Nat) (f_115 : Nat → Int32) (A_115 : Nat → Nat → Int32) (H : Heap) (locs : List Loc) (y_113 : Int32) (ls : Array Slot), (65536 - y_113.toInt).toNat < n_114 → 0 ≤ y_113.toInt ∧ y_113.toInt ≤ 65535 → y_113 &&& f_115 20 = y_113 → (f_115 11).toInt = (f 11).toInt → (f_115 12).toInt = 1 → (f_115 23).toInt = x1.toInt → aOk (A 40) x2.toInt (f_115 20).toInt → (∀ k, k ∉ ([50, 53, 55, 58, 59, 61, 62, 66, 69, 70, 71, 72, 73] : List Nat) → A_115 k = A k) → (∀ k, k ∉ ([11, 12, 14, 16, 20, 23, 24, 25, 27, 28, 34, 35] : List Nat) → f_115 k = f k) → mT f_115 A_115 → va_P D vwCl (zW K (mV K f_115 A_115)) H → va_S (zA K) s.heap H locs → lv_has ls 7 [(5, .int y_113), (4, .int (f 12)), (0, .ref a0), (1, .int x1), (2, .int x2), (3, .int x3)] → W p l e (rmd 5) s m args below meth c H locs 0 0 Q (F0 m 159 ls []) := by
            intro n_114
            induction n_114 with
            | zero => intro f_115 A_115 H locs y_113 ls hm_114; exact absurd hm_114 (Nat.not_lt_zero _)
            | succ n_114 ih_114 =>
              intro f_115 A_115 H locs y_113 ls hm_114 iv_115_0 iv_115_1 iv_115_2 iv_115_3 iv_115_4 iv_115_5 FA_115 FF_115 hT hP hS hl
              have FA := FA_115
              have FF := FF_115
              refine lv_iconst (v := 0) hx hb dX12_solve_159 (by decide) ?_
              refine lv_istore (lv' := [(6, .int 0), (5, .int y_113), (4, .int (f 12)), (0, .ref a0), (1, .int x1), (2, .int x2), (3, .int x3)]) hx hb dX12_solve_160 hl (by decide) rfl (fun ls hl => ?_)
              have L_162_118 : ∀ (n_118 : Nat) (f_119 : Nat → Int32) (A_119 : Nat → Nat → Int32) (H : Heap) (locs : List Loc) (y_117 : Int32) (ls : Array Slot), (2147483648 - y_117.toInt).toNat < n_118 → 0 ≤ y_117.toInt → (f_119 11).toInt = (f 11).toInt → (f_119 12).toInt = 1 → (f_119 23).toInt = x1.toInt → f_119 20 = f_115 20 → (∀ k, k ∉ ([50, 53, 55, 58, 59, 61, 62, 66, 69, 70, 71, 72, 73] : List Nat) → A_119 k = A k) → (∀ k, k ∉ ([11, 12, 14, 16, 20, 23, 24, 25, 27, 28, 34, 35] : List Nat) → f_119 k = f k) → mT f_119 A_119 → va_P D vwCl (zW K (mV K f_119 A_119)) H → va_S (zA K) s.heap H locs → lv_has ls 7 [(6, .int y_117), (5, .int y_113), (4, .int (f 12)), (0, .ref a0), (1, .int x1), (2, .int x2), (3, .int x3)] → W p l e (rmd 5) s m args below meth c H locs 0 0 Q (F0 m 162 ls []) := by
                intro n_118
                induction n_118 with
                | zero => intro f_119 A_119 H locs y_117 ls hm_118; exact absurd hm_118 (Nat.not_lt_zero _)
                | succ n_118 ih_118 =>
                  intro f_119 A_119 H locs y_117 ls hm_118 iv_119_0 iv_119_1 iv_119_2 iv_119_3 iv_119_4 FA_119 FF_119 hT hP hS hl
                  have FA := FA_119
                  have FF := FF_119
                  refine lv_iload hx hb dX12_solve_162 (lv_at hl 0 rfl) ?_
                  refine lv_iconst (v := 4) hx hb dX12_solve_164 (by decide) ?_
                  have J_256_176 : ∀ (ls : Array Slot), lv_has ls 7 [(0, .ref a0), (1, .int x1), (2, .int x2), (3, .int x3), (4, .int (f 12)), (5, .int y_113), (6, .int y_117)] → W p l e (rmd 5) s m args below meth c H locs 0 0 Q (F0 m 256 ls []) := by
                    intro ls hl
                    refine lv_iload hx hb dX12_solve_256 (lv_at hl 5 rfl) ?_
                    refine lv_aload_n hx hb dX12_solve_258 rfl (lv_at hl 0 rfl) ?_
                    refine mg_20 C hs hP ha0 hk0 wf_X12_286 dX12_solve_259 ?_
                    have tf_178 : 0 ≤ (f_119 20).toInt ∧ (f_119 20).toInt ≤ 65535 := hT.1 20
                    refine lv_isub hx hb dX12_solve_262 ?_
                    refine lv_topi (fun x_179 ex_179 => ?_)
                    refine lv_aload_n hx hb dX12_solve_263 rfl (lv_at hl 0 rfl) ?_
                    refine mg_20 C hs hP ha0 hk0 wf_X12_286 dX12_solve_264 ?_
                    refine lv_iand hx hb dX12_solve_267 ?_
                    refine lv_topi (fun x_180 ex_180 => ?_)
                    refine lv_istore (lv' := [(5, .int x_180), (0, .ref a0), (1, .int x1), (2, .int x2), (3, .int x3), (4, .int (f 12)), (6, .int y_117)]) hx hb dX12_solve_268 hl (by decide) rfl (fun ls hl => ?_)
                    refine lv_iload hx hb dX12_solve_270 (lv_at hl 0 rfl) ?_
                    refine bz_ne (tgt := 159) hx hb rfl dX12_solve_272 (by decide) (fun c_181 => ?_) (fun c_181 => ?_)
                    · skip
                      have g_182 := z_rng y_113
                      have g_183 := z_rng (f_119 20)
                      obtain ⟨f_179, l_179, u_179⟩ := z_sub ex_179 rfl rfl
                      try replace f_179 : x_179.toInt = y_113.toInt - (f_119 20).toInt := by omega
                      clear l_179 u_179
                      have f_d180 := z_and ex_180 rfl (by omega)
                      have g_184 := z_rng x_180
                      have hnx := sub_next ex_179 ex_180 (by omega) iv_115_0 (by rw [iv_119_4]; exact iv_115_1)
                      exact ih_114 f_119 A_119 _ _ x_180 _ (by have h9 := hnx.2.1; omega) hnx.2.2 hnx.1 (by omega) (by omega) (by omega) (by rw [iv_119_4]; exact iv_115_5) FA FF hT hP hS (lv_sub hl [0, 5, 1, 2, 3, 4] rfl)
                    · skip
                      refine lv_aload_n hx hb dX12_solve_275 rfl (lv_at hl 1 rfl) ?_
                      refine lv_iload hx hb dX12_solve_276 (lv_at hl 5 rfl) ?_
                      have g_186 := z_rng (f 12)
                      have g_187 := z_rng y_113
                      have g_188 := z_rng (f_119 20)
                      obtain ⟨f_179, l_179, u_179⟩ := z_sub ex_179 rfl rfl
                      try replace f_179 : x_179.toInt = y_113.toInt - (f_119 20).toInt := by omega
                      clear l_179 u_179
                      have f_d180 := z_and ex_180 rfl (by omega)
                      refine mp_12 C hM hs hP hS ha0 hT hk0 wf_X12_78 hb_9 (show 0 ≤ (f 12).toInt ∧ (f 12).toInt ≤ 1 from by omega) dX12_solve_278 (fun f_185 H locs hE_185 hT hP hS => ?_)
                      have FF := frF FF (frFu hE_185) (by decide)
                      have ev_189 : f_185 11 = f_119 11 := by rw [hE_185, pk_un (show 11 ≠ 12 by decide)]
                      have ev_190 : f_185 12 = f 12 := by rw [hE_185, pk_us]
                      have ev_191 : f_185 20 = f_119 20 := by rw [hE_185, pk_un (show 20 ≠ 12 by decide)]
                      have ev_192 : f_185 23 = f_119 23 := by rw [hE_185, pk_un (show 23 ≠ 12 by decide)]
                      exact maV hQ hx hb hr hlk hP hS ⟨hT, FA, FF, ⟨by rw [ev_189]; omega, by rw [ev_190], by rw [ev_191, iv_119_4]; exact iv_115_5, by rw [ev_192]; omega⟩⟩ dX12_solve_281
                  refine bi_ge (tgt := 256) hx hb rfl ti_4 dX12_solve_165 (by decide) (fun c_121 => ?_) (fun c_121 => ?_)
                  · skip
                    exact J_256_176 _ (lv_sub hl [3, 4, 5, 6, 2, 1, 0] rfl)
                  · skip
                    refine lv_aload_n hx hb dX12_solve_168 rfl (lv_at hl 3 rfl) ?_
                    refine lv_iload hx hb dX12_solve_169 (lv_at hl 1 rfl) ?_
                    have g_193 := z_rng y_113
                    have hq_194 : 0 ≤ y_113.toInt ∧ y_113.toInt ≤ 65535 := by (first | assumption | omega | (intros; omega))
                    refine zcS (zrV (As := [.int y_113]) (b := a0) (rest := []) C hs hP hS (c_X12_isBetween l D K hM f_119 A_119 hT a0 ha0 hk0 y_113 hq_194) m_X12_isBetween wm_X12_289 (zrecv hs hP ha0 (zF_11 hk0) rfl) ⟨by decide, by decide⟩ hl.1 (Nat.le_of_ble_eq_true rfl) dX12_solve_171) (fun x_195 p_195 => ?_)
                    refine bz_eq (tgt := 256) hx hb rfl dX12_solve_174 (by decide) (fun c_196 => ?_) (fun c_196 => ?_)
                    · skip
                      exact J_256_176 _ (lv_sub hl [3, 4, 5, 6, 2, 1, 0] rfl)
                    · skip
                      refine lv_iload hx hb dX12_solve_177 (lv_at hl 1 rfl) ?_
                      refine lv_iload hx hb dX12_solve_179 (lv_at hl 0 rfl) ?_
                      have g_197 := z_rng y_117
                      have hq_198 : 0 ≤ y_113.toInt ∧ y_113.toInt ≤ 65535 := by (first | assumption | omega | (intros; omega))
                      have hq_199 : 0 ≤ y_117.toInt ∧ y_117.toInt ≤ 3 := by (first | assumption | omega | (intros; omega))
                      refine zcS (zrS (As := [.int y_113, .int y_117]) (rest := []) C hs hP hS (c_X12_leftOf l D K hM f_119 A_119 hT y_113 y_117 hq_198 hq_199) m_X12_leftOf wm_X12_244 ⟨by decide, by decide⟩ hl.1 (Nat.le_of_ble_eq_true rfl) dX12_solve_181) (fun x_200 p_200 => ?_)
                      have pp_200 : 0 ≤ x_200.toInt ∧ x_200.toInt ≤ 4 ∧ (x_200.toInt ≤ 0 → nib y_113.toInt y_117.toInt = 0) ∧ (0 < x_200.toInt → y_113.toInt ≠ 0) := p_200
                      refine bz_le (tgt := 250) hx hb rfl dX12_solve_184 (by decide) (fun c_201 => ?_) (fun c_201 => ?_)
                      · skip
                        obtain ⟨x_202, ex_202⟩ : ∃ y : Int32, y = y_117 + 1 := ⟨_, rfl⟩
                        refine lv_iinc (v := x_202) (lv' := [(6, .int x_202), (5, .int y_113), (4, .int (f 12)), (0, .ref a0), (1, .int x1), (2, .int x2), (3, .int x3)]) hx hb dX12_solve_250 hl (k := 0) rfl (by rw [ex_202]; rfl) (by decide) rfl (fun ls hl => ?_)
                        refine lv_goto (tgt := 162) hx hb dX12_solve_253 (by decide) ?_
                        obtain ⟨f_202, l_202, u_202⟩ := z_add ex_202 rfl ti_1
                        try replace f_202 : x_202.toInt = y_117.toInt + 1 := by omega
                        clear l_202 u_202
                        have g_203 := z_rng x_195
                        have g_204 := z_rng x_200
                        exact ih_118 f_119 A_119 _ _ x_202 _ (by omega) (by omega) (by omega) (by omega) (by omega) iv_119_4 FA FF hT hP hS (lv_sub hl [0, 1, 2, 3, 4, 5, 6] rfl)
                      · skip
                        refine lv_aload_n hx hb dX12_solve_187 rfl (lv_at hl 3 rfl) ?_
                        refine lv_iload hx hb dX12_solve_188 (lv_at hl 1 rfl) ?_
                        refine lv_iload hx hb dX12_solve_190 (lv_at hl 0 rfl) ?_
                        have hq_205 : 0 ≤ y_113.toInt ∧ y_113.toInt ≤ 65535 := by (first | assumption | omega | (intros; omega))
                        have hq_206 : 0 ≤ y_117.toInt ∧ y_117.toInt ≤ 3 := by (first | assumption | omega | (intros; omega))
                        refine mcV (zrV (As := [.int y_113, .int y_117]) (b := a0) (rest := []) C hs hP hS (c_X12_seatAll l D K hM f_119 A_119 hT a0 ha0 hk0 y_113 y_117 hq_205 hq_206) m_X12_seatAll wm_X12_292 (zrecv hs hP ha0 (zF_11 hk0) rfl) ⟨by decide, by decide⟩ hl.1 (Nat.le_of_ble_eq_true rfl) dX12_solve_192) hS (fun f_207 A_207 H locs p_207 hP hS => ?_)
                        obtain ⟨hT, hA_207, hF_207, pp_207⟩ := p_207
                        have pp_207 : (y_113.toInt ≠ 0 → 1 ≤ (f_207 27).toInt) := pp_207
                        have FA := frA FA hA_207 (by decide)
                        have FF := frF FF hF_207 (by decide)
                        refine lv_aload_n hx hb dX12_solve_195 rfl (lv_at hl 3 rfl) ?_
                        refine lv_iload hx hb dX12_solve_196 (lv_at hl 1 rfl) ?_
                        refine mp_28 C hM hs hP hS ha0 hT hk0 wf_X12_256 (show 0 ≤ y_113.toInt ∧ y_113.toInt ≤ 65535 from by omega) dX12_solve_198 (fun f_208 H locs hE_208 hT hP hS => ?_)
                        have FF := frF FF (frFu hE_208) (by decide)
                        refine lv_aload_n hx hb dX12_solve_201 rfl (lv_at hl 3 rfl) ?_
                        refine lv_iconst (v := 0) hx hb dX12_solve_202 (by decide) ?_
                        refine mp_16 C hM hs hP hS ha0 hT hk0 wf_X12_127 (show 0 ≤ (0 : Int32).toInt ∧ (0 : Int32).toInt ≤ 4 from by rw [ti_0]; omega) dX12_solve_203 (fun f_209 H locs hE_209 hT hP hS => ?_)
                        have FF := frF FF (frFu hE_209) (by decide)
                        refine lv_aload_n hx hb dX12_solve_206 rfl (lv_at hl 3 rfl) ?_
                        refine lv_iload_n hx hb dX12_solve_207 rfl (lv_at hl 5 rfl) ?_
                        refine lv_iconst (v := 0) hx hb dX12_solve_208 (by decide) ?_
                        have g_210 := z_rng x2
                        have ev_212 : f_209 27 = f_207 27 := by rw [hE_209, pk_un (show 27 ≠ 16 by decide), hE_208, pk_un (show 27 ≠ 28 by decide)]
                        have hq_211 : 0 ≤ (0 : Int32).toInt ∧ (0 : Int32).toInt < (f_209 27).toInt := by rw [ev_212] <;> ((try simp only [ti_0]); first | assumption | omega | (intros; omega))
                        have ev_214 : f_209 16 = (0 : Int32) := by rw [hE_209, pk_us]
                        have ev_214_i : (f_209 16).toInt = 0 := by rw [ev_214, ti_0]
                        have hq_213 : (f_209 16).toInt = (0 : Int32).toInt := by rw [ev_214] <;> ((try simp only [ti_0]); first | assumption | omega | (intros; omega))
                        have ev_216 : f_209 12 = f_119 12 := by rw [hE_209, pk_un (show 12 ≠ 16 by decide), hE_208, pk_un (show 12 ≠ 28 by decide), hF_207 12 (by decide)]
                        have hq_215 : (f_209 12).toInt ≠ 0 := by rw [ev_216] <;> ((try simp only [ti_0]); first | assumption | omega | (intros; omega))
                        have ev_218 : f_209 11 = f_119 11 := by rw [hE_209, pk_un (show 11 ≠ 16 by decide), hE_208, pk_un (show 11 ≠ 28 by decide), hF_207 11 (by decide)]
                        have hq_217 : (f_209 11).toInt ≤ 1970000000 := by rw [ev_218] <;> ((try simp only [ti_0]); first | assumption | omega | (intros; omega))
                        refine mcV (zrV (As := [.int x2, .int 0]) (b := a0) (rest := []) C hs hP hS (c_X12_goThrough l D K hM f_209 A_207 hT a0 ha0 hk0 x2 0 hp0 hq_211 hq_213 hq_215 hq_217) m_X12_goThrough wm_X12_295 (zrecv hs hP ha0 (zF_11 hk0) rfl) ⟨by decide, by decide⟩ hl.1 (Nat.le_of_ble_eq_true rfl) dX12_solve_209) hS (fun f_219 A_219 H locs p_219 hP hS => ?_)
                        obtain ⟨hT, hA_219, hF_219, pp_219⟩ := p_219
                        have pp_219 : (f_209 11).toInt ≤ (f_219 11).toInt ∧ (f_219 11).toInt ≤ (f_209 11).toInt + 0 ∧ ((f_209 12).toInt ≠ 0 → (f_219 11).toInt = (f_209 11).toInt) ∧ (f_219 16).toInt = (0 : Int32).toInt := pp_219
                        have ev_220 : f_209 11 = f_119 11 := by rw [hE_209, pk_un (show 11 ≠ 16 by decide), hE_208, pk_un (show 11 ≠ 28 by decide), hF_207 11 (by decide)]
                        have ev_221 : f_209 12 = f_119 12 := by rw [hE_209, pk_un (show 12 ≠ 16 by decide), hE_208, pk_un (show 12 ≠ 28 by decide), hF_207 12 (by decide)]
                        rw [ev_220, ev_221] at pp_219
                        try simp only [ti_0] at pp_219
                        have FA := frA FA hA_219 (by decide)
                        have FF := frF FF hF_219 (by decide)
                        refine lv_aload_n hx hb dX12_solve_212 rfl (lv_at hl 3 rfl) ?_
                        refine mg_21 C hs hP ha0 hk0 wf_X12_49 dX12_solve_213 ?_
                        have hf_222 := hO.r (j := 21) ha0 hk0 (rfl : zX 11 21 = some (61, 262144))
                        refine lv_iconst (v := 4) hx hb dX12_solve_216 (by decide) ?_
                        refine lv_iload hx hb dX12_solve_217 (lv_at hl 1 rfl) ?_
                        refine lv_imul hx hb dX12_solve_219 ?_
                        refine lv_topi (fun x_223 ex_223 => ?_)
                        refine lv_iload hx hb dX12_solve_220 (lv_at hl 0 rfl) ?_
                        refine lv_iadd hx hb dX12_solve_222 ?_
                        refine lv_topi (fun x_224 ex_224 => ?_)
                        refine lv_aload_n hx hb dX12_solve_223 rfl (lv_at hl 3 rfl) ?_
                        refine mg_32 C hs hP ha0 hk0 wf_X12_72 dX12_solve_224 ?_
                        have hf_225 := hO.r (j := 32) ha0 hk0 (rfl : zX 11 32 = some (72, 4))
                        refine lv_iconst (v := 0) hx hb dX12_solve_227 (by decide) ?_
                        have hin_226 : vp_in 0 (zn K (zr K a0 32)) := vp_in_iff.mpr (by rw [ti_0, (hf_225.2.2 (by decide))]; decide)
                        refine mld_72 C hs hP hf_225.1 hf_225.2.1 hin_226 dX12_solve_228 ?_
                        have ep_227 : (0 : Int32).toNatClampNeg = 0 := by decide +kernel
                        rw [ep_227]
                        obtain ⟨x_228, ex_228⟩ : ∃ z : Int32, (A_219 72 0).toInt8.toInt32 = z := ⟨_, rfl⟩
                        refine lv_i2b hx hb dX12_solve_229 ex_228 ?_
                        obtain ⟨f_223, l_223, u_223⟩ := z_mul ex_223 ti_4 rfl
                        try replace f_223 : x_223.toInt = 4 * y_113.toInt := by omega
                        clear l_223 u_223
                        obtain ⟨f_224, l_224, u_224⟩ := z_add ex_224 rfl rfl
                        try replace f_224 : x_224.toInt = x_223.toInt + y_117.toInt := by omega
                        clear l_224 u_224
                        have hin_229 : vp_in x_224 (zn K (zr K a0 21)) := vp_in_iff.mpr (by rw [(hf_222.2.2 (by decide))]; refine ⟨?_, ?_⟩ <;> omega)
                        refine mst_61 C hM hs hP hS hf_222.1 hT hf_222.2.1 hin_229 trivial dX12_solve_230 (fun A_230 H locs hE_230 hT hP hS => ?_)
                        have FA := frA FA (frAu hE_230) (by decide)
                        refine lv_aload_n hx hb dX12_solve_231 rfl (lv_at hl 3 rfl) ?_
                        refine mg_22 C hs hP ha0 hk0 wf_X12_53 dX12_solve_232 ?_
                        have hf_231 := hO.r (j := 22) ha0 hk0 (rfl : zX 11 22 = some (62, 262144))
                        refine lv_iconst (v := 4) hx hb dX12_solve_235 (by decide) ?_
                        refine lv_iload hx hb dX12_solve_236 (lv_at hl 1 rfl) ?_
                        refine lv_imul hx hb dX12_solve_238 ?_
                        refine lv_topi (fun x_232 ex_232 => ?_)
                        refine lv_iload hx hb dX12_solve_239 (lv_at hl 0 rfl) ?_
                        refine lv_iadd hx hb dX12_solve_241 ?_
                        refine lv_topi (fun x_233 ex_233 => ?_)
                        refine lv_aload_n hx hb dX12_solve_242 rfl (lv_at hl 3 rfl) ?_
                        refine mg_33 C hs hP ha0 hk0 wf_X12_75 dX12_solve_243 ?_
                        have hf_234 := hO.r (j := 33) ha0 hk0 (rfl : zX 11 33 = some (73, 4))
                        refine lv_iconst (v := 0) hx hb dX12_solve_246 (by decide) ?_
                        have hin_235 : vp_in 0 (zn K (zr K a0 33)) := vp_in_iff.mpr (by rw [ti_0, (hf_234.2.2 (by decide))]; decide)
                        refine mld_73 C hs hP hf_234.1 hf_234.2.1 hin_235 dX12_solve_247 ?_
                        have ep_236 : (0 : Int32).toNatClampNeg = 0 := by decide +kernel
                        rw [ep_236]
                        have ev_237 : A_230 73 0 = A_219 73 0 := by rw [hE_230, va_up_ne _ _ (show 73 ≠ 61 by decide)]
                        rw [ev_237]
                        obtain ⟨x_238, ex_238⟩ : ∃ z : Int32, (A_219 73 0).toInt8.toInt32 = z := ⟨_, rfl⟩
                        refine lv_i2b hx hb dX12_solve_248 ex_238 ?_
                        obtain ⟨f_232, l_232, u_232⟩ := z_mul ex_232 ti_4 rfl
                        try replace f_232 : x_232.toInt = 4 * y_113.toInt := by omega
                        clear l_232 u_232
                        obtain ⟨f_233, l_233, u_233⟩ := z_add ex_233 rfl rfl
                        try replace f_233 : x_233.toInt = x_232.toInt + y_117.toInt := by omega
                        clear l_233 u_233
                        have hin_239 : vp_in x_233 (zn K (zr K a0 22)) := vp_in_iff.mpr (by rw [(hf_231.2.2 (by decide))]; refine ⟨?_, ?_⟩ <;> omega)
                        refine mst_62 C hM hs hP hS hf_231.1 hT hf_231.2.1 hin_239 trivial dX12_solve_249 (fun A_240 H locs hE_240 hT hP hS => ?_)
                        have FA := frA FA (frAu hE_240) (by decide)
                        obtain ⟨x_241, ex_241⟩ : ∃ y : Int32, y = y_117 + 1 := ⟨_, rfl⟩
                        refine lv_iinc (v := x_241) (lv' := [(6, .int x_241), (5, .int y_113), (4, .int (f 12)), (0, .ref a0), (1, .int x1), (2, .int x2), (3, .int x3)]) hx hb dX12_solve_250 hl (k := 0) rfl (by rw [ex_241]; rfl) (by decide) rfl (fun ls hl => ?_)
                        refine lv_goto (tgt := 162) hx hb dX12_solve_253 (by decide) ?_
                        obtain ⟨f_241, l_241, u_241⟩ := z_add ex_241 rfl ti_1
                        try replace f_241 : x_241.toInt = y_117.toInt + 1 := by omega
                        clear l_241 u_241
                        have g_242 := z_rng x_195
                        have g_243 := z_rng x_200
                        have ev_244 : f_219 20 = f_119 20 := by rw [hF_219 20 (by decide), hE_209, pk_un (show 20 ≠ 16 by decide), hE_208, pk_un (show 20 ≠ 28 by decide), hF_207 20 (by decide)]
                        have ev_245 : f_219 12 = f_119 12 := by rw [hF_219 12 (by decide), hE_209, pk_un (show 12 ≠ 16 by decide), hE_208, pk_un (show 12 ≠ 28 by decide), hF_207 12 (by decide)]
                        have ev_246 : f_219 23 = f_119 23 := by rw [hF_219 23 (by decide), hE_209, pk_un (show 23 ≠ 16 by decide), hE_208, pk_un (show 23 ≠ 28 by decide), hF_207 23 (by decide)]
                        exact ih_118 f_219 A_240 _ _ x_241 _ (by omega) (by omega) (by omega) (by rw [ev_245] <;> first | omega | decide) (by rw [ev_246] <;> first | omega | decide) (by rw [ev_244]; exact iv_119_4) FA FF hT hP hS (lv_sub hl [0, 1, 2, 3, 4, 5, 6] rfl)
              exact L_162_118 _ f_115 A_115 _ _ 0 _ (Nat.lt_succ_self _) (by (try simp only [ti_0]); omega) (by omega) (by omega) (by omega) rfl FA FF hT hP hS (lv_sub hl [0, 1, 2, 3, 4, 5, 6] rfl)
          have g_247 := z_rng y_13
          exact L_159_114 _ f_15 A_15 _ _ 0 _ (Nat.lt_succ_self _) (by rw [ti_0]; decide) (z_0and _) (by omega) (by omega) (by omega) (fun q h1 h2 h3 => iv_15_5 q h1 (by omega) h3) FA FF hT hP hS (lv_sub hl [0, 1, 2, 3, 4, 5] rfl)
        · skip
          refine lv_aload_n hx hb dX12_solve_57 rfl (lv_at hl 2 rfl) ?_
          refine mg_19 C hs hP ha0 hk0 wf_X12_45 dX12_solve_58 ?_
          have hf_248 := hO.r (j := 19) ha0 hk0 (rfl : zX 11 19 = some (59, 4))
          refine lv_iload hx hb dX12_solve_61 (lv_at hl 0 rfl) ?_
          refine lv_iconst (v := 0) hx hb dX12_solve_63 (by decide) ?_
          refine lv_aload_n hx hb dX12_solve_64 rfl (lv_at hl 2 rfl) ?_
          refine mg_0 C hs hP ha0 hk0 wf_X12_8 dX12_solve_65 ?_
          have hf_249 := hO.r (j := 0) ha0 hk0 (rfl : zX 11 0 = some (40, 47730))
          refine lv_iload_n hx hb dX12_solve_68 rfl (lv_at hl 4 rfl) ?_
          refine lv_bipush (v := 22) hx hb dX12_solve_69 (by decide) ?_
          refine lv_iadd hx hb dX12_solve_71 ?_
          refine lv_topi (fun x_250 ex_250 => ?_)
          refine lv_iload hx hb dX12_solve_72 (lv_at hl 0 rfl) ?_
          refine lv_iadd hx hb dX12_solve_74 ?_
          refine lv_topi (fun x_251 ex_251 => ?_)
          have hi_hr_252 : zEq x_251.toInt (x2.toInt + y_13.toInt + 22) := by
            have g_253 := z_rng x2
            obtain ⟨f_250, l_250, u_250⟩ := z_add ex_250 rfl ti_22
            try replace f_250 : x_250.toInt = x2.toInt + 22 := by omega
            clear l_250 u_250
            have g_254 := z_rng y_13
            obtain ⟨f_251, l_251, u_251⟩ := z_add ex_251 rfl rfl
            try replace f_251 : x_251.toInt = x_250.toInt + y_13.toInt := by omega
            clear l_251 u_251
            show x_251.toInt = (x2.toInt + y_13.toInt + 22)
            omega
          have hl_hr_252 : 22 ≤ y_13.toInt + 22 ∧ y_13.toInt + 22 ≤ 25 := by
            have g_255 := z_rng x2
            have g_256 := z_rng y_13
            omega
          have hid_hr_252 : (x2.toInt + y_13.toInt + 22) = x2.toInt + (y_13.toInt + 22) := by simp only [Int.add_assoc, Int.add_sub_assoc]
          have hr_252 := z_cell (lo := 22) (hi := 25) hp0 hi_hr_252 hid_hr_252 hl_hr_252 (by decide)
          replace hid_hr_252 : zEq (x2.toInt + y_13.toInt + 22) (x2.toInt + (y_13.toInt + 22)) := hid_hr_252
          have hin_257 : vp_in x_251 (zn K (zr K a0 0)) := vp_in_iff.mpr (by rw [(hf_249.2.2 (by decide))]; exact hr_252.in)
          refine mld_40 C hs hP hf_249.1 hf_249.2.1 hin_257 dX12_solve_75 ?_
          have ep_258 : x_251.toNatClampNeg = (x2.toInt + y_13.toInt + 22).toNat := z_posE hi_hr_252
          rw [ep_258]
          have ev_259 : A_15 40 (x2.toInt + y_13.toInt + 22).toNat = A 40 (x2.toInt + y_13.toInt + 22).toNat := by rw [FA_15 40 (by decide)]
          have tv_260 := rv_22 hT hr_252
          rw [ep_258] at tv_260
          rw [ev_259] at tv_260
          rw [ev_259]
          refine zcS (zrS (As := [.int 0, .int (A 40 (x2.toInt + y_13.toInt + 22).toNat)]) (rest := [.int y_13, .ref (zr K a0 19)]) C hs hP hS (c_X12_most l D K hM f_15 A_15 hT 0 (A 40 (x2.toInt + y_13.toInt + 22).toNat)) m_X12_most wm_X12_247 ⟨by decide, by decide⟩ hl.1 (Nat.le_of_ble_eq_true rfl) dX12_solve_76) (fun x_261 p_261 => ?_)
          have pp_261 : (0 : Int32).toInt ≤ x_261.toInt ∧ (A 40 (x2.toInt + y_13.toInt + 22).toNat).toInt ≤ x_261.toInt ∧ (x_261.toInt = (0 : Int32).toInt ∨ x_261.toInt = (A 40 (x2.toInt + y_13.toInt + 22).toNat).toInt) := p_261
          try simp only [ti_0] at pp_261
          have g_262 := z_rng (A 40 (x2.toInt + y_13.toInt + 22).toNat)
          have hh_261 : (A 40 (x2.toInt + y_13.toInt + 22).toNat).toInt ≤ 4 := hp1 y_13.toInt (by omega) (by omega)
          have g_264 := z_rng y_13
          have hin_263 : vp_in y_13 (zn K (zr K a0 19)) := vp_in_iff.mpr (by rw [(hf_248.2.2 (by decide))]; refine ⟨?_, ?_⟩ <;> omega)
          refine mst_59 C hM hs hP hS hf_248.1 hT hf_248.2.1 hin_263 trivial dX12_solve_79 (fun A_265 H locs hE_265 hT hP hS => ?_)
          have FA := frA FA (frAu hE_265) (by decide)
          refine lv_iconst (v := 0) hx hb dX12_solve_80 (by decide) ?_
          refine lv_istore (lv' := [(6, .int 0), (5, .int y_13), (4, .int (f 12)), (0, .ref a0), (1, .int x1), (2, .int x2), (3, .int x3)]) hx hb dX12_solve_81 hl (by decide) rfl (fun ls hl => ?_)
          have L_83_267 : ∀ (n_267 : Nat) (f_268 : Nat → Int32) (A_268 : Nat → Nat → Int32) (H : Heap) (locs : List Loc) (y_266 : Int32) (ls : Array Slot), (2147483648 - y_266.toInt).toNat < n_267 → 0 ≤ y_266.toInt → (f_268 11).toInt = (f 11).toInt → (f_268 12).toInt = 1 → (f_268 23).toInt = x1.toInt → (f_15 20).toInt ≤ (f_268 20).toInt → (1 ≤ y_266.toInt → 0 < (f_268 20).toInt) → (A_268 59 y_13.toNatClampNeg).toInt = x_261.toInt → (∀ k, k ∉ ([50, 53, 55, 58, 59, 61, 62, 66, 69, 70, 71, 72, 73] : List Nat) → A_268 k = A k) → (∀ k, k ∉ ([11, 12, 14, 16, 20, 23, 24, 25, 27, 28, 34, 35] : List Nat) → f_268 k = f k) → mT f_268 A_268 → va_P D vwCl (zW K (mV K f_268 A_268)) H → va_S (zA K) s.heap H locs → lv_has ls 7 [(6, .int y_266), (5, .int y_13), (4, .int (f 12)), (0, .ref a0), (1, .int x1), (2, .int x2), (3, .int x3)] → W p l e (rmd 5) s m args below meth c H locs 0 0 Q (F0 m 83 ls []) := by
            intro n_267
            induction n_267 with
            | zero => intro f_268 A_268 H locs y_266 ls hm_267; exact absurd hm_267 (Nat.not_lt_zero _)
            | succ n_267 ih_267 =>
              intro f_268 A_268 H locs y_266 ls hm_267 iv_268_0 iv_268_1 iv_268_2 iv_268_3 iv_268_4 iv_268_5 iv_268_6 FA_268 FF_268 hT hP hS hl
              have FA := FA_268
              have FF := FF_268
              refine lv_iload hx hb dX12_solve_83 (lv_at hl 0 rfl) ?_
              refine lv_aload_n hx hb dX12_solve_85 rfl (lv_at hl 3 rfl) ?_
              refine mg_19 C hs hP ha0 hk0 wf_X12_45 dX12_solve_86 ?_
              refine lv_iload hx hb dX12_solve_89 (lv_at hl 1 rfl) ?_
              have hin_270 : vp_in y_13 (zn K (zr K a0 19)) := vp_in_iff.mpr (by rw [(hf_248.2.2 (by decide))]; refine ⟨?_, ?_⟩ <;> omega)
              refine mld_59 C hs hP hf_248.1 hf_248.2.1 hin_270 dX12_solve_91 ?_
              refine bi_ge (tgt := 150) hx hb rfl rfl dX12_solve_92 (by decide) (fun c_271 => ?_) (fun c_271 => ?_)
              · skip
                obtain ⟨x_305, ex_305⟩ : ∃ y : Int32, y = y_13 + 1 := ⟨_, rfl⟩
                refine lv_iinc (v := x_305) (lv' := [(5, .int x_305), (6, .int y_266), (4, .int (f 12)), (0, .ref a0), (1, .int x1), (2, .int x2), (3, .int x3)]) hx hb dX12_solve_150 hl (k := 1) rfl (by rw [ex_305]; rfl) (by decide) rfl (fun ls hl => ?_)
                refine lv_goto (tgt := 51) hx hb dX12_solve_153 (by decide) ?_
                obtain ⟨f_305, l_305, u_305⟩ := z_add ex_305 rfl ti_1
                try replace f_305 : x_305.toInt = y_13.toInt + 1 := by omega
                clear l_305 u_305
                have g_306 := z_rng (A_268 59 y_13.toNatClampNeg)
                have g_307 := z_rng y_266
                exact ih_14 f_268 A_268 _ _ x_305 _ (by omega) (by omega) (by omega) (by omega) (by omega) (by omega) (aOkN.s iv_15_5 (by omega) (by omega) (fun h9 => by omega)) FA FF hT hP hS (lv_sub hl [0, 2, 3, 4, 5, 6] rfl)
              · skip
                refine lv_aload_n hx hb dX12_solve_95 rfl (lv_at hl 3 rfl) ?_
                refine mg_18 C hs hP ha0 hk0 wf_X12_42 dX12_solve_96 ?_
                have hf_308 := hO.r (j := 18) ha0 hk0 (rfl : zX 11 18 = some (58, 16))
                refine lv_iconst (v := 4) hx hb dX12_solve_99 (by decide) ?_
                refine lv_iload hx hb dX12_solve_100 (lv_at hl 1 rfl) ?_
                refine lv_imul hx hb dX12_solve_102 ?_
                refine lv_topi (fun x_309 ex_309 => ?_)
                refine lv_iload hx hb dX12_solve_103 (lv_at hl 0 rfl) ?_
                refine lv_iadd hx hb dX12_solve_105 ?_
                refine lv_topi (fun x_310 ex_310 => ?_)
                refine lv_aload_n hx hb dX12_solve_106 rfl (lv_at hl 3 rfl) ?_
                refine mg_0 C hs hP ha0 hk0 wf_X12_8 dX12_solve_107 ?_
                refine lv_iload_n hx hb dX12_solve_110 rfl (lv_at hl 5 rfl) ?_
                refine lv_sipush (v := 230) hx hb dX12_solve_111 (by decide) ?_
                refine lv_iadd hx hb dX12_solve_114 ?_
                refine lv_topi (fun x_311 ex_311 => ?_)
                refine lv_bipush (v := 60) hx hb dX12_solve_115 (by decide) ?_
                refine lv_iload hx hb dX12_solve_117 (lv_at hl 1 rfl) ?_
                refine lv_imul hx hb dX12_solve_119 ?_
                refine lv_topi (fun x_312 ex_312 => ?_)
                refine lv_iadd hx hb dX12_solve_120 ?_
                refine lv_topi (fun x_313 ex_313 => ?_)
                refine lv_iload hx hb dX12_solve_121 (lv_at hl 0 rfl) ?_
                refine lv_iadd hx hb dX12_solve_123 ?_
                refine lv_topi (fun x_314 ex_314 => ?_)
                have hi_hr_315 : zEq x_314.toInt (x2.toInt + 60 * y_13.toInt + y_266.toInt + 230) := by
                  have g_316 := z_rng x2
                  obtain ⟨f_311, l_311, u_311⟩ := z_add ex_311 rfl ti_230
                  try replace f_311 : x_311.toInt = x2.toInt + 230 := by omega
                  clear l_311 u_311
                  obtain ⟨f_312, l_312, u_312⟩ := z_mul ex_312 ti_60 rfl
                  try replace f_312 : x_312.toInt = 60 * y_13.toInt := by omega
                  clear l_312 u_312
                  obtain ⟨f_313, l_313, u_313⟩ := z_add ex_313 rfl rfl
                  try replace f_313 : x_313.toInt = x_311.toInt + x_312.toInt := by omega
                  clear l_313 u_313
                  have g_317 := z_rng y_266
                  obtain ⟨f_314, l_314, u_314⟩ := z_add ex_314 rfl rfl
                  try replace f_314 : x_314.toInt = x_313.toInt + y_266.toInt := by omega
                  clear l_314 u_314
                  show x_314.toInt = (x2.toInt + 60 * y_13.toInt + y_266.toInt + 230)
                  omega
                have hl_hr_315 : 230 ≤ 60 * y_13.toInt + y_266.toInt + 230 ∧ 60 * y_13.toInt + y_266.toInt + 230 ≤ 469 := by
                  have g_318 := z_rng x2
                  have g_319 := z_rng y_266
                  omega
                have hid_hr_315 : (x2.toInt + 60 * y_13.toInt + y_266.toInt + 230) = x2.toInt + (60 * y_13.toInt + y_266.toInt + 230) := by simp only [Int.add_assoc, Int.add_sub_assoc]
                have hr_315 := z_cell (lo := 170) (hi := 469) hp0 hi_hr_315 hid_hr_315 hl_hr_315 (by decide)
                replace hid_hr_315 : zEq (x2.toInt + 60 * y_13.toInt + y_266.toInt + 230) (x2.toInt + (60 * y_13.toInt + y_266.toInt + 230)) := hid_hr_315
                have hin_320 : vp_in x_314 (zn K (zr K a0 0)) := vp_in_iff.mpr (by rw [(hf_249.2.2 (by decide))]; exact hr_315.in)
                refine mld_40 C hs hP hf_249.1 hf_249.2.1 hin_320 dX12_solve_124 ?_
                have ep_321 : x_314.toNatClampNeg = (x2.toInt + 60 * y_13.toInt + y_266.toInt + 230).toNat := z_posE hi_hr_315
                rw [ep_321]
                have ev_322 : A_268 40 (x2.toInt + 60 * y_13.toInt + y_266.toInt + 230).toNat = A 40 (x2.toInt + 60 * y_13.toInt + y_266.toInt + 230).toNat := by rw [FA_268 40 (by decide)]
                have tv_323 := rv_170 hT hr_315
                rw [ep_321] at tv_323
                rw [ev_322] at tv_323
                rw [ev_322]
                obtain ⟨f_309, l_309, u_309⟩ := z_mul ex_309 ti_4 rfl
                try replace f_309 : x_309.toInt = 4 * y_13.toInt := by omega
                clear l_309 u_309
                have g_325 := z_rng y_266
                obtain ⟨f_310, l_310, u_310⟩ := z_add ex_310 rfl rfl
                try replace f_310 : x_310.toInt = x_309.toInt + y_266.toInt := by omega
                clear l_310 u_310
                have hin_324 : vp_in x_310 (zn K (zr K a0 18)) := vp_in_iff.mpr (by rw [(hf_308.2.2 (by decide))]; refine ⟨?_, ?_⟩ <;> omega)
                have g_327 := z_rng (A 40 (x2.toInt + 60 * y_13.toInt + y_266.toInt + 230).toNat)
                refine mst_58 C hM hs hP hS hf_308.1 hT hf_308.2.1 hin_324 (show 0 ≤ (A 40 (x2.toInt + 60 * y_13.toInt + y_266.toInt + 230).toNat).toInt ∧ (A 40 (x2.toInt + 60 * y_13.toInt + y_266.toInt + 230).toNat).toInt ≤ 59 from by omega) dX12_solve_125 (fun A_326 H locs hE_326 hT hP hS => ?_)
                have FA := frA FA (frAu hE_326) (by decide)
                refine lv_aload_n hx hb dX12_solve_126 rfl (lv_at hl 3 rfl) ?_
                refine lv_dup hx hb dX12_solve_127 rfl ?_
                refine mg_20 C hs hP ha0 hk0 wf_X12_286 dX12_solve_128 ?_
                have tf_328 : 0 ≤ (f_268 20).toInt ∧ (f_268 20).toInt ≤ 65535 := hT.1 20
                refine lv_iconst (v := 1) hx hb dX12_solve_131 (by decide) ?_
                refine lv_iconst (v := 4) hx hb dX12_solve_132 (by decide) ?_
                refine lv_iload hx hb dX12_solve_133 (lv_at hl 1 rfl) ?_
                refine lv_imul hx hb dX12_solve_135 ?_
                refine lv_topi (fun x_329 ex_329 => ?_)
                refine lv_iload hx hb dX12_solve_136 (lv_at hl 0 rfl) ?_
                refine lv_iadd hx hb dX12_solve_138 ?_
                refine lv_topi (fun x_330 ex_330 => ?_)
                refine lv_ishl hx hb dX12_solve_139 ?_
                refine lv_topi (fun x_331 ex_331 => ?_)
                refine lv_ior hx hb dX12_solve_140 ?_
                refine lv_topi (fun x_332 ex_332 => ?_)
                have g_334 := z_rng (f_268 20)
                obtain ⟨f_329, l_329, u_329⟩ := z_mul ex_329 ti_4 rfl
                try replace f_329 : x_329.toInt = 4 * y_13.toInt := by omega
                clear l_329 u_329
                obtain ⟨f_330, l_330, u_330⟩ := z_add ex_330 rfl rfl
                try replace f_330 : x_330.toInt = x_329.toInt + y_266.toInt := by omega
                clear l_330 u_330
                have f_d331 := z_shl1 ex_331 (by omega)
                have f_d332 := z_or16 ex_332 (by omega) (by omega)
                refine mp_20 C hM hs hP hS ha0 hT hk0 wf_X12_286 (show 0 ≤ x_332.toInt ∧ x_332.toInt ≤ 65535 from by omega) dX12_solve_141 (fun f_333 H locs hE_333 hT hP hS => ?_)
                have FF := frF FF (frFu hE_333) (by decide)
                obtain ⟨x_335, ex_335⟩ : ∃ y : Int32, y = y_266 + 1 := ⟨_, rfl⟩
                refine lv_iinc (v := x_335) (lv' := [(6, .int x_335), (5, .int y_13), (4, .int (f 12)), (0, .ref a0), (1, .int x1), (2, .int x2), (3, .int x3)]) hx hb dX12_solve_144 hl (k := 0) rfl (by rw [ex_335]; rfl) (by decide) rfl (fun ls hl => ?_)
                refine lv_goto (tgt := 83) hx hb dX12_solve_147 (by decide) ?_
                obtain ⟨f_335, l_335, u_335⟩ := z_add ex_335 rfl ti_1
                try replace f_335 : x_335.toInt = y_266.toInt + 1 := by omega
                clear l_335 u_335
                have g_336 := z_rng (A_268 59 y_13.toNatClampNeg)
                have ev_337 : f_333 11 = f_268 11 := by rw [hE_333, pk_un (show 11 ≠ 20 by decide)]
                have ev_338 : f_333 12 = f_268 12 := by rw [hE_333, pk_un (show 12 ≠ 20 by decide)]
                have ev_339 : f_333 23 = f_268 23 := by rw [hE_333, pk_un (show 23 ≠ 20 by decide)]
                have ev_340 : f_333 20 = x_332 := by rw [hE_333, pk_us]
                have ev_341 : A_326 59 y_13.toNatClampNeg = A_268 59 y_13.toNatClampNeg := by rw [hE_326, va_up_ne _ _ (show 59 ≠ 58 by decide)]
                exact ih_267 f_333 A_326 _ _ x_335 _ (by omega) (by omega) (by rw [ev_337] <;> first | omega | decide) (by rw [ev_338] <;> first | omega | decide) (by rw [ev_339] <;> first | omega | decide) (by rw [ev_340]; omega) (fun h9 => by rw [ev_340]; omega) (by rw [ev_341]; exact iv_268_6) FA FF hT hP hS (lv_sub hl [0, 1, 2, 3, 4, 5, 6] rfl)
          have ev_342 : A_265 59 y_13.toNatClampNeg = x_261 := by rw [hE_265, va_up_self, pk_us]
          exact L_83_267 _ f_15 A_265 _ _ 0 _ (Nat.lt_succ_self _) (by (try simp only [ti_0]); omega) (by omega) (by omega) (by omega) (by omega) (fun h9 => by rw [ti_0] at h9; omega) (by rw [ev_342]) FA FF hT hP hS (lv_sub hl [0, 1, 2, 3, 4, 5, 6] rfl)
    have ev_343 : f_12 11 = f 11 := by rw [hE_12, pk_un (show 11 ≠ 20 by decide), hE_11, pk_un (show 11 ≠ 12 by decide), hE_7, pk_un (show 11 ≠ 25 by decide), hE_6, pk_un (show 11 ≠ 24 by decide), hE_5, pk_un (show 11 ≠ 23 by decide)]
    have ev_344 : f_12 12 = (1 : Int32) := by rw [hE_12, pk_un (show 12 ≠ 20 by decide), hE_11, pk_us]
    have ev_344_i : (f_12 12).toInt = 1 := by rw [ev_344, ti_1]
    have ev_345 : f_12 23 = x1 := by rw [hE_12, pk_un (show 23 ≠ 20 by decide), hE_11, pk_un (show 23 ≠ 12 by decide), hE_7, pk_un (show 23 ≠ 25 by decide), hE_6, pk_un (show 23 ≠ 24 by decide), hE_5, pk_us]
    have g_346 := z_rng x1
    exact L_51_14 _ f_12 A _ _ 0 _ (Nat.lt_succ_self _) (by (try simp only [ti_0]); omega) (by rw [ti_0]; decide) (by rw [ev_343] <;> first | omega | decide) (by rw [ev_344] <;> first | omega | decide) (by rw [ev_345] <;> first | omega | decide) (aOkN.z (by rw [ti_0]; decide)) FA FF hT hP hS (lv_sub hl [0, 1, 2, 3, 4, 5] rfl)
  refine bi_ne (tgt := 17) hx hb rfl rfl dX12_solve_5 (by decide) (fun c_1 => ?_) (fun c_1 => ?_)
  · skip
    exact J_17_3 _ (lv_sub hl [0, 1, 2, 3] rfl)
  · skip
    refine lv_aload_n hx hb dX12_solve_8 rfl (lv_at hl 0 rfl) ?_
    refine mg_24 C hs hP ha0 hk0 wf_X12_283 dX12_solve_9 ?_
    refine lv_iload_n hx hb dX12_solve_12 rfl (lv_at hl 3 rfl) ?_
    refine bi_ne (tgt := 17) hx hb rfl rfl dX12_solve_13 (by decide) (fun c_347 => ?_) (fun c_347 => ?_)
    · skip
      exact J_17_3 _ (lv_sub hl [0, 1, 2, 3] rfl)
    · skip
      exact maV hQ hx hb hr hlk hP hS ⟨hT, FA, FF, ⟨rfl, rfl, hp2 c_1, c_1⟩⟩ dX12_solve_16
