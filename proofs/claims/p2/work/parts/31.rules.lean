set_option maxHeartbeats 4000000 in
set_option maxRecDepth 100000 in
theorem c_X12_has (l : Launch) (D : va_G) (K : zK) (hM : mK K) (f : Nat → Int32) (A : Nat → Nat → Int32) (hT : mT f A) (a0 : Nat) (ha0 : a0 ∈ zl K) (hk0 : zk K a0 = 11) (x1 : Int32) (x2 : Int32) (hp0 : 0 ≤ x1.toInt ∧ x1.toInt ≤ 46440 ∧ x1.toInt % 1290 = 0) : Met l yX12_has (zc yX12_has cX12_has 4 (some .boolean)) (rmd 1) (va_Pc [.ref a0, .int x1, .int x2] (zB D K (mV K f A))) (vp_Si (fun r => (r = 0 ∨ r = 1))) 0 0 (fun _ => False) := by
  refine zin (by decide) (Nat.le_of_ble_eq_true rfl) ?_
  intro p e s m args below meth c ls Q hQ C hr hlk hP hs hl
  have C : CallFix p m c cX12_has 4 s args zw RX12 := C
  obtain ⟨hx, hb, hml, hown, hts⟩ := id C
  have hO := hM.1
  have hS : va_S (zA K) s.heap s.heap [] := va_S.rf
  have hl : lv_has ls 4 [(0, .ref a0), (1, .int x1), (2, .int x2)] := hl
  refine lv_iconst (v := 0) hx hb dX12_has_0 (by decide) ?_
  refine lv_istore_n (lv' := [(3, .int 0), (0, .ref a0), (1, .int x1), (2, .int x2)]) hx hb dX12_has_1 rfl hl (by decide) rfl (fun ls hl => ?_)
  have L_2_2 : ∀ (n_2 : Nat) (y_1 : Int32) (ls : Array Slot), (2147483648 - y_1.toInt).toNat < n_2 → 0 ≤ y_1.toInt → lv_has ls 4 [(3, .int y_1), (0, .ref a0), (1, .int x1), (2, .int x2)] → W p l e (rmd 1) s m args below meth c s.heap [] 0 0 Q (F0 m 2 ls []) := by
    intro n_2
    induction n_2 with
    | zero => intro y_1 ls hm_2; exact absurd hm_2 (Nat.not_lt_zero _)
    | succ n_2 ih_2 =>
      intro y_1 ls hm_2 iv_3_0 hl
      refine lv_iload_n hx hb dX12_has_2 rfl (lv_at hl 0 rfl) ?_
      refine lv_aload_n hx hb dX12_has_3 rfl (lv_at hl 1 rfl) ?_
      refine mg_14 C hs hP ha0 hk0 wf_X12_117 dX12_has_4 ?_
      have tf_4 : 0 ≤ (f 14).toInt ∧ (f 14).toInt ≤ 60 := hT.1 14
      refine bi_ge (tgt := 33) hx hb rfl rfl dX12_has_7 (by decide) (fun c_5 => ?_) (fun c_5 => ?_)
      · skip
        refine lv_iconst (v := 0) hx hb dX12_has_33 (by decide) ?_
        exact zaSz hQ hx hb hr hlk (Or.inl rfl) (Or.inl rfl) dX12_has_34
      · skip
        refine lv_aload_n hx hb dX12_has_10 rfl (lv_at hl 1 rfl) ?_
        refine lv_iload_n hx hb dX12_has_11 rfl (lv_at hl 2 rfl) ?_
        refine lv_aload_n hx hb dX12_has_12 rfl (lv_at hl 1 rfl) ?_
        refine mg_13 C hs hP ha0 hk0 wf_X12_36 dX12_has_13 ?_
        have hf_6 := hO.r (j := 13) ha0 hk0 (rfl : zX 11 13 = some (53, 60))
        refine lv_iload_n hx hb dX12_has_16 rfl (lv_at hl 0 rfl) ?_
        have g_8 := z_rng y_1
        have hin_7 : vp_in y_1 (zn K (zr K a0 13)) := vp_in_iff.mpr (by rw [(hf_6.2.2 (by decide))]; refine ⟨?_, ?_⟩ <;> omega)
        refine mld_53 C hs hP hf_6.1 hf_6.2.1 hin_7 dX12_has_17 ?_
        have tv_9 := ra_53 hT (vp_in_iff.mp hin_7).1 (by have h7 := (vp_in_iff.mp hin_7).2; rw [(hf_6.2.2 (by decide))] at h7; exact h7)
        have g_10 := z_rng x1
        have g_11 := z_rng (A 53 y_1.toNatClampNeg)
        have hq_12 : 0 ≤ x1.toInt ∧ x1.toInt ≤ 46440 ∧ x1.toInt % 1290 = 0 := by first | assumption | omega | (intros; omega)
        have hq_13 : 0 ≤ (A 53 y_1.toNatClampNeg).toInt ∧ (A 53 y_1.toNatClampNeg).toInt ≤ 59 := by first | assumption | omega | (intros; omega)
        refine zcS (zrV (As := [.int x1, .int (A 53 y_1.toNatClampNeg)]) (b := a0) (rest := []) C hs hP hS (c_X12_colour l D K hM f A hT a0 ha0 hk0 x1 (A 53 y_1.toNatClampNeg) hq_12 hq_13) m_X12_colour wm_X12_120 (zrecv hs hP ha0 (zF_11 hk0) rfl) ⟨by decide, by decide⟩ hl.1 (Nat.le_of_ble_eq_true rfl) dX12_has_18) (fun x_14 p_14 => ?_)
        have pp_14 : x_14 = mcol (A 40) x1 (A 53 y_1.toNatClampNeg) := p_14
        have pq_14 := congrArg Int32.toInt pp_14
        refine lv_iload_n hx hb dX12_has_21 rfl (lv_at hl 3 rfl) ?_
        refine bi_ne (tgt := 27) hx hb rfl rfl dX12_has_22 (by decide) (fun c_15 => ?_) (fun c_15 => ?_)
        · skip
          obtain ⟨x_16, ex_16⟩ : ∃ y : Int32, y = y_1 + 1 := ⟨_, rfl⟩
          refine lv_iinc (v := x_16) (lv' := [(3, .int x_16), (0, .ref a0), (1, .int x1), (2, .int x2)]) hx hb dX12_has_27 hl (k := 0) rfl (by rw [ex_16]; rfl) (by decide) rfl (fun ls hl => ?_)
          refine lv_goto (tgt := 2) hx hb dX12_has_30 (by decide) ?_
          obtain ⟨f_16, l_16, u_16⟩ := z_add ex_16 rfl ti_1
          try replace f_16 : x_16.toInt = y_1.toInt + 1 := by omega
          have g_17 := z_rng x_14
          have g_18 := z_rng x2
          have g_19 := z_rng (f 14)
          exact ih_2 x_16 _ (by omega) (by omega) (lv_sub hl [0, 1, 2, 3] rfl)
        · skip
          refine lv_iconst (v := 1) hx hb dX12_has_25 (by decide) ?_
          exact zaSz hQ hx hb hr hlk (Or.inr rfl) (Or.inr rfl) dX12_has_26
  exact L_2_2 _ 0 _ (Nat.lt_succ_self _) (by (try simp only [ti_0]); omega) (lv_sub hl [0, 1, 2, 3] rfl)
set_option maxHeartbeats 4000000 in
set_option maxRecDepth 100000 in
theorem c_X12_hasOther (l : Launch) (D : va_G) (K : zK) (hM : mK K) (f : Nat → Int32) (A : Nat → Nat → Int32) (hT : mT f A) (a0 : Nat) (ha0 : a0 ∈ zl K) (hk0 : zk K a0 = 11) (x1 : Int32) (x2 : Int32) (hp0 : 0 ≤ x1.toInt ∧ x1.toInt ≤ 46440 ∧ x1.toInt % 1290 = 0) : Met l yX12_hasOther (zc yX12_hasOther cX12_hasOther 5 (some .boolean)) (rmd 1) (va_Pc [.ref a0, .int x1, .int x2] (zB D K (mV K f A))) (vp_Si (fun r => (r = 0 ∨ r = 1))) 0 0 (fun _ => False) := by
  refine zin (by decide) (Nat.le_of_ble_eq_true rfl) ?_
  intro p e s m args below meth c ls Q hQ C hr hlk hP hs hl
  have C : CallFix p m c cX12_hasOther 5 s args zw RX12 := C
  obtain ⟨hx, hb, hml, hown, hts⟩ := id C
  have hO := hM.1
  have hS : va_S (zA K) s.heap s.heap [] := va_S.rf
  have hl : lv_has ls 5 [(0, .ref a0), (1, .int x1), (2, .int x2)] := hl
  refine lv_iconst (v := 0) hx hb dX12_hasOther_0 (by decide) ?_
  refine lv_istore_n (lv' := [(3, .int 0), (0, .ref a0), (1, .int x1), (2, .int x2)]) hx hb dX12_hasOther_1 rfl hl (by decide) rfl (fun ls hl => ?_)
  have L_2_2 : ∀ (n_2 : Nat) (y_1 : Int32) (ls : Array Slot), (2147483648 - y_1.toInt).toNat < n_2 → 0 ≤ y_1.toInt → lv_has ls 5 [(3, .int y_1), (0, .ref a0), (1, .int x1), (2, .int x2)] → W p l e (rmd 1) s m args below meth c s.heap [] 0 0 Q (F0 m 2 ls []) := by
    intro n_2
    induction n_2 with
    | zero => intro y_1 ls hm_2; exact absurd hm_2 (Nat.not_lt_zero _)
    | succ n_2 ih_2 =>
      intro y_1 ls hm_2 iv_3_0 hl
      refine lv_iload_n hx hb dX12_hasOther_2 rfl (lv_at hl 0 rfl) ?_
      refine lv_aload_n hx hb dX12_hasOther_3 rfl (lv_at hl 1 rfl) ?_
      refine mg_14 C hs hP ha0 hk0 wf_X12_117 dX12_hasOther_4 ?_
      have tf_4 : 0 ≤ (f 14).toInt ∧ (f 14).toInt ≤ 60 := hT.1 14
      refine bi_ge (tgt := 44) hx hb rfl rfl dX12_hasOther_7 (by decide) (fun c_5 => ?_) (fun c_5 => ?_)
      · skip
        refine lv_iconst (v := 0) hx hb dX12_hasOther_44 (by decide) ?_
        exact zaSz hQ hx hb hr hlk (Or.inl rfl) (Or.inl rfl) dX12_hasOther_45
      · skip
        refine lv_aload_n hx hb dX12_hasOther_10 rfl (lv_at hl 1 rfl) ?_
        refine lv_iload_n hx hb dX12_hasOther_11 rfl (lv_at hl 2 rfl) ?_
        refine lv_aload_n hx hb dX12_hasOther_12 rfl (lv_at hl 1 rfl) ?_
        refine mg_13 C hs hP ha0 hk0 wf_X12_36 dX12_hasOther_13 ?_
        have hf_6 := hO.r (j := 13) ha0 hk0 (rfl : zX 11 13 = some (53, 60))
        refine lv_iload_n hx hb dX12_hasOther_16 rfl (lv_at hl 0 rfl) ?_
        have g_8 := z_rng y_1
        have hin_7 : vp_in y_1 (zn K (zr K a0 13)) := vp_in_iff.mpr (by rw [(hf_6.2.2 (by decide))]; refine ⟨?_, ?_⟩ <;> omega)
        refine mld_53 C hs hP hf_6.1 hf_6.2.1 hin_7 dX12_hasOther_17 ?_
        have tv_9 := ra_53 hT (vp_in_iff.mp hin_7).1 (by have h7 := (vp_in_iff.mp hin_7).2; rw [(hf_6.2.2 (by decide))] at h7; exact h7)
        have g_10 := z_rng x1
        have g_11 := z_rng (A 53 y_1.toNatClampNeg)
        have hq_12 : 0 ≤ x1.toInt ∧ x1.toInt ≤ 46440 ∧ x1.toInt % 1290 = 0 := by first | assumption | omega | (intros; omega)
        have hq_13 : 0 ≤ (A 53 y_1.toNatClampNeg).toInt ∧ (A 53 y_1.toNatClampNeg).toInt ≤ 59 := by first | assumption | omega | (intros; omega)
        refine zcS (zrV (As := [.int x1, .int (A 53 y_1.toNatClampNeg)]) (b := a0) (rest := []) C hs hP hS (c_X12_colour l D K hM f A hT a0 ha0 hk0 x1 (A 53 y_1.toNatClampNeg) hq_12 hq_13) m_X12_colour wm_X12_120 (zrecv hs hP ha0 (zF_11 hk0) rfl) ⟨by decide, by decide⟩ hl.1 (Nat.le_of_ble_eq_true rfl) dX12_hasOther_18) (fun x_14 p_14 => ?_)
        have pp_14 : x_14 = mcol (A 40) x1 (A 53 y_1.toNatClampNeg) := p_14
        have pq_14 := congrArg Int32.toInt pp_14
        refine lv_istore (lv' := [(4, .int x_14), (3, .int y_1), (0, .ref a0), (1, .int x1), (2, .int x2)]) hx hb dX12_hasOther_21 hl (by decide) rfl (fun ls hl => ?_)
        refine lv_iload hx hb dX12_hasOther_23 (lv_at hl 0 rfl) ?_
        refine lv_iload_n hx hb dX12_hasOther_25 rfl (lv_at hl 4 rfl) ?_
        refine bi_eq (tgt := 38) hx hb rfl rfl dX12_hasOther_26 (by decide) (fun c_15 => ?_) (fun c_15 => ?_)
        · skip
          obtain ⟨x_16, ex_16⟩ : ∃ y : Int32, y = y_1 + 1 := ⟨_, rfl⟩
          refine lv_iinc (v := x_16) (lv' := [(3, .int x_16), (4, .int x_14), (0, .ref a0), (1, .int x1), (2, .int x2)]) hx hb dX12_hasOther_38 hl (k := 1) rfl (by rw [ex_16]; rfl) (by decide) rfl (fun ls hl => ?_)
          refine lv_goto (tgt := 2) hx hb dX12_hasOther_41 (by decide) ?_
          obtain ⟨f_16, l_16, u_16⟩ := z_add ex_16 rfl ti_1
          try replace f_16 : x_16.toInt = y_1.toInt + 1 := by omega
          have g_17 := z_rng x_14
          have g_18 := z_rng x2
          have g_19 := z_rng (f 14)
          exact ih_2 x_16 _ (by omega) (by omega) (lv_sub hl [0, 2, 3, 4] rfl)
        · skip
          refine lv_iload hx hb dX12_hasOther_29 (lv_at hl 0 rfl) ?_
          refine lv_bipush (v := 6) hx hb dX12_hasOther_31 (by decide) ?_
          refine bi_eq (tgt := 38) hx hb rfl ti_6 dX12_hasOther_33 (by decide) (fun c_20 => ?_) (fun c_20 => ?_)
          · skip
            obtain ⟨x_21, ex_21⟩ : ∃ y : Int32, y = y_1 + 1 := ⟨_, rfl⟩
            refine lv_iinc (v := x_21) (lv' := [(3, .int x_21), (4, .int x_14), (0, .ref a0), (1, .int x1), (2, .int x2)]) hx hb dX12_hasOther_38 hl (k := 1) rfl (by rw [ex_21]; rfl) (by decide) rfl (fun ls hl => ?_)
            refine lv_goto (tgt := 2) hx hb dX12_hasOther_41 (by decide) ?_
            obtain ⟨f_21, l_21, u_21⟩ := z_add ex_21 rfl ti_1
            try replace f_21 : x_21.toInt = y_1.toInt + 1 := by omega
            have g_22 := z_rng x2
            have g_23 := z_rng x_14
            have g_24 := z_rng (f 14)
            exact ih_2 x_21 _ (by omega) (by omega) (lv_sub hl [0, 2, 3, 4] rfl)
          · skip
            refine lv_iconst (v := 1) hx hb dX12_hasOther_36 (by decide) ?_
            exact zaSz hQ hx hb hr hlk (Or.inr rfl) (Or.inr rfl) dX12_hasOther_37
  exact L_2_2 _ 0 _ (Nat.lt_succ_self _) (by (try simp only [ti_0]); omega) (lv_sub hl [0, 1, 2, 3] rfl)
set_option maxHeartbeats 4000000 in
set_option maxRecDepth 100000 in
theorem c_X12_allows (l : Launch) (D : va_G) (K : zK) (hM : mK K) (f : Nat → Int32) (A : Nat → Nat → Int32) (hT : mT f A) (a0 : Nat) (ha0 : a0 ∈ zl K) (hk0 : zk K a0 = 11) (x1 : Int32) (x2 : Int32) (hp0 : 0 ≤ x1.toInt ∧ x1.toInt ≤ 46440 ∧ x1.toInt % 1290 = 0) (hp1 : 0 ≤ x2.toInt ∧ x2.toInt ≤ 59) (hp2 : (f 11).toInt ≤ 1990000000) : Met l yX12_allows (zc yX12_allows cX12_allows 7 (some .int)) (rmd 2) (va_Pc [.ref a0, .int x1, .int x2] (zB D K (mV K f A))) (mQi D K (fun r f' A' => mT f' A' ∧ (∀ k, k ∉ ([50] : List Nat) → A' k = A k) ∧ (∀ k, k ∉ ([11] : List Nat) → f' k = f k) ∧ (f 11).toInt ≤ (f' 11).toInt ∧ (f' 11).toInt ≤ (f 11).toInt + 3 ∧ ((f 12).toInt ≠ 0 → (f' 11).toInt = (f 11).toInt))) 0 0 (zA K) := by
  refine zin (by decide) (Nat.le_of_ble_eq_true rfl) ?_
  intro p e s m args below meth c ls Q hQ C hr hlk hP hs hl
  have C : CallFix p m c cX12_allows 7 s args zw RX12 := C
  obtain ⟨hx, hb, hml, hown, hts⟩ := id C
  have hO := hM.1
  have hS : va_S (zA K) s.heap s.heap [] := va_S.rf
  have FA : ∀ k, k ∉ ([50] : List Nat) → A k = A k := fun _ _ => rfl
  have FF : ∀ k, k ∉ ([11] : List Nat) → f k = f k := fun _ _ => rfl
  have hl : lv_has ls 7 [(0, .ref a0), (1, .int x1), (2, .int x2)] := hl
  refine lv_aload_n hx hb dX12_allows_0 rfl (lv_at hl 0 rfl) ?_
  refine mg_0 C hs hP ha0 hk0 wf_X12_8 dX12_allows_1 ?_
  have hf_1 := hO.r (j := 0) ha0 hk0 (rfl : zX 11 0 = some (40, 47730))
  refine lv_iload_n hx hb dX12_allows_4 rfl (lv_at hl 1 rfl) ?_
  refine lv_iconst (v := 3) hx hb dX12_allows_5 (by decide) ?_
  refine lv_iadd hx hb dX12_allows_6 ?_
  refine lv_topi (fun x_2 ex_2 => ?_)
  have g_4 := z_rng x1
  obtain ⟨f_2, l_2, u_2⟩ := z_add ex_2 rfl ti_3
  try replace f_2 : x_2.toInt = x1.toInt + 3 := by omega
  have hin_3 : vp_in x_2 (zn K (zr K a0 0)) := vp_in_iff.mpr (by rw [(hf_1.2.2 (by decide))]; refine ⟨?_, ?_⟩ <;> omega)
  refine mld_40 C hs hP hf_1.1 hf_1.2.1 hin_3 dX12_allows_7 ?_
  have ep_5 : x_2.toNatClampNeg = (x1.toInt + 3).toNat := by show x_2.toInt.toNat = _; rw [show x_2.toInt = (x1.toInt + 3) by omega]
  rw [ep_5]
  refine lv_istore_n (lv' := [(3, .int (A 40 (x1.toInt + 3).toNat)), (0, .ref a0), (1, .int x1), (2, .int x2)]) hx hb dX12_allows_8 rfl hl (by decide) rfl (fun ls hl => ?_)
  refine lv_iload_n hx hb dX12_allows_9 rfl (lv_at hl 0 rfl) ?_
  refine lv_iconst (v := 1) hx hb dX12_allows_10 (by decide) ?_
  have J_24_9 : ∀ (y_8 : Int32) (ls : Array Slot), (y_8 = 0 ∨ y_8 = 1) → lv_has ls 7 [(0, .ref a0), (1, .int x1), (2, .int x2), (3, .int (A 40 (x1.toInt + 3).toNat))] → W p l e (rmd 2) s m args below meth c s.heap [] 0 0 Q (F0 m 24 ls [.int y_8]) := by
    intro y_8 ls hb_y_8 hl
    refine lv_istore (lv' := [(4, .int y_8), (0, .ref a0), (1, .int x1), (2, .int x2), (3, .int (A 40 (x1.toInt + 3).toNat))]) hx hb dX12_allows_24 hl (by decide) rfl (fun ls hl => ?_)
    refine lv_aload_n hx hb dX12_allows_26 rfl (lv_at hl 1 rfl) ?_
    refine mg_0 C hs hP ha0 hk0 wf_X12_8 dX12_allows_27 ?_
    refine lv_iload_n hx hb dX12_allows_30 rfl (lv_at hl 2 rfl) ?_
    refine lv_iconst (v := 2) hx hb dX12_allows_31 (by decide) ?_
    refine lv_iadd hx hb dX12_allows_32 ?_
    refine lv_topi (fun x_11 ex_11 => ?_)
    obtain ⟨f_11, l_11, u_11⟩ := z_add ex_11 rfl ti_2
    try replace f_11 : x_11.toInt = x1.toInt + 2 := by omega
    have hin_12 : vp_in x_11 (zn K (zr K a0 0)) := vp_in_iff.mpr (by rw [(hf_1.2.2 (by decide))]; refine ⟨?_, ?_⟩ <;> omega)
    refine mld_40 C hs hP hf_1.1 hf_1.2.1 hin_12 dX12_allows_33 ?_
    have ep_13 : x_11.toNatClampNeg = (x1.toInt + 2).toNat := by show x_11.toInt.toNat = _; rw [show x_11.toInt = (x1.toInt + 2) by omega]
    rw [ep_13]
    refine lv_iconst (v := 4) hx hb dX12_allows_34 (by decide) ?_
    have J_44_17 : ∀ (f_18 : Nat → Int32) (A_18 : Nat → Nat → Int32) (H : Heap) (locs : List Loc) (ls : Array Slot), ((f 11).toInt ≤ (f_18 11).toInt ∧ (f_18 11).toInt ≤ (f 11).toInt + 1 ∧ ((f 12).toInt ≠ 0 → (f_18 11).toInt = (f 11).toInt)) → (∀ k, k ∉ ([50] : List Nat) → A_18 k = A k) → (∀ k, k ∉ ([11] : List Nat) → f_18 k = f k) → mT f_18 A_18 → va_P D vwCl (zW K (mV K f_18 A_18)) H → va_S (zA K) s.heap H locs → lv_has ls 7 [(0, .ref a0), (1, .int x1), (2, .int x2), (3, .int (A 40 (x1.toInt + 3).toNat)), (4, .int y_8)] → W p l e (rmd 2) s m args below meth c H locs 0 0 Q (F0 m 44 ls []) := by
      intro f_18 A_18 H locs ls iv_18_0 FA_18 FF_18 hT hP hS hl
      have FA := FA_18
      have FF := FF_18
      refine lv_iload hx hb dX12_allows_44 (lv_at hl 4 rfl) ?_
      have J_70_38 : ∀ (f_39 : Nat → Int32) (A_39 : Nat → Nat → Int32) (H : Heap) (locs : List Loc) (ls : Array Slot), ((f 11).toInt ≤ (f_39 11).toInt ∧ (f_39 11).toInt ≤ (f 11).toInt + 2 ∧ ((f 12).toInt ≠ 0 → (f_39 11).toInt = (f 11).toInt)) → (∀ k, k ∉ ([50] : List Nat) → A_39 k = A k) → (∀ k, k ∉ ([11] : List Nat) → f_39 k = f k) → mT f_39 A_39 → va_P D vwCl (zW K (mV K f_39 A_39)) H → va_S (zA K) s.heap H locs → lv_has ls 7 [(0, .ref a0), (1, .int x1), (2, .int x2), (3, .int (A 40 (x1.toInt + 3).toNat)), (4, .int y_8)] → W p l e (rmd 2) s m args below meth c H locs 0 0 Q (F0 m 70 ls []) := by
        intro f_39 A_39 H locs ls iv_39_0 FA_39 FF_39 hT hP hS hl
        have FA := FA_39
        have FF := FF_39
        refine lv_aload_n hx hb dX12_allows_70 rfl (lv_at hl 0 rfl) ?_
        refine lv_bipush (v := 21) hx hb dX12_allows_71 (by decide) ?_
        have hq_41 : (f_39 11).toInt ≤ 2000000000 := by (try simp only [ti_21]); first | assumption | omega | (intros; omega)
        refine mcV (zrV (As := [.int 21]) (b := a0) (rest := []) C hs hP hS (c_X12_body l D K hM f_39 A_39 hT a0 ha0 hk0 21 hq_41) m_X12_body wm_X12_124 (zrecv hs hP ha0 (zF_11 hk0) rfl) ⟨by decide, by decide⟩ hl.1 (Nat.le_of_ble_eq_true rfl) dX12_allows_73) hS (fun f_42 A_42 H locs p_42 hP hS => ?_)
        obtain ⟨hT, hA_42, hF_42, pp_42⟩ := p_42
        have pp_42 : (f_39 11).toInt ≤ (f_42 11).toInt ∧ (f_42 11).toInt ≤ (f_39 11).toInt + 1 ∧ ((f_39 12).toInt ≠ 0 → (f_42 11).toInt = (f_39 11).toInt) := pp_42
        have ev_43 : f_39 12 = f 12 := by rw [FF_39 12 (by decide)]
        rw [ev_43] at pp_42
        try simp only [ti_21] at pp_42
        have FA := frA FA hA_42 (by decide)
        have FF := frF FF hF_42 (by decide)
        refine lv_aload_n hx hb dX12_allows_76 rfl (lv_at hl 0 rfl) ?_
        refine lv_iload_n hx hb dX12_allows_77 rfl (lv_at hl 1 rfl) ?_
        refine lv_iload_n hx hb dX12_allows_78 rfl (lv_at hl 2 rfl) ?_
        have g_44 := z_rng x2
        have hq_45 : 0 ≤ x1.toInt ∧ x1.toInt ≤ 46440 ∧ x1.toInt % 1290 = 0 := by first | assumption | omega | (intros; omega)
        have hq_46 : 0 ≤ x2.toInt ∧ x2.toInt ≤ 59 := by first | assumption | omega | (intros; omega)
        refine zcS (zrV (As := [.int x1, .int x2]) (b := a0) (rest := []) C hs hP hS (c_X12_colour l D K hM f_42 A_42 hT a0 ha0 hk0 x1 x2 hq_45 hq_46) m_X12_colour wm_X12_120 (zrecv hs hP ha0 (zF_11 hk0) rfl) ⟨by decide, by decide⟩ hl.1 (Nat.le_of_ble_eq_true rfl) dX12_allows_79) (fun x_47 p_47 => ?_)
        have pp_47 : x_47 = mcol (A_42 40) x1 x2 := p_47
        have ev_48 : A_42 40 = A 40 := by rw [hA_42 40 (by decide), FA_39 40 (by decide)]
        rw [ev_48] at pp_47
        have pq_47 := congrArg Int32.toInt pp_47
        refine lv_istore (lv' := [(5, .int x_47), (0, .ref a0), (1, .int x1), (2, .int x2), (3, .int (A 40 (x1.toInt + 3).toNat)), (4, .int y_8)]) hx hb dX12_allows_82 hl (by decide) rfl (fun ls hl => ?_)
        refine lv_aload_n hx hb dX12_allows_84 rfl (lv_at hl 1 rfl) ?_
        refine mg_16 C hs hP ha0 hk0 wf_X12_127 dX12_allows_85 ?_
        have ev_49 : f_42 16 = f 16 := by rw [hF_42 16 (by decide), FF_39 16 (by decide)]
        rw [ev_49]
        have tf_50 : 0 ≤ (f 16).toInt ∧ (f 16).toInt ≤ 4 := by rw [← ev_49]; exact hT.1 16
        have J_106_63 : ∀ (y_62 : Int32) (ls : Array Slot), lv_has ls 7 [(0, .ref a0), (1, .int x1), (2, .int x2), (3, .int (A 40 (x1.toInt + 3).toNat)), (4, .int y_8), (5, .int x_47)] → W p l e (rmd 2) s m args below meth c H locs 0 0 Q (F0 m 106 ls [.int y_62]) := by
          intro y_62 ls hl
          refine lv_istore (lv' := [(6, .int y_62), (0, .ref a0), (1, .int x1), (2, .int x2), (3, .int (A 40 (x1.toInt + 3).toNat)), (4, .int y_8), (5, .int x_47)]) hx hb dX12_allows_106 hl (by decide) rfl (fun ls hl => ?_)
          refine lv_iload hx hb dX12_allows_108 (lv_at hl 6 rfl) ?_
          refine lv_iconst (v := 5) hx hb dX12_allows_110 (by decide) ?_
          refine bi_eq (tgt := 120) hx hb rfl ti_5 dX12_allows_111 (by decide) (fun c_65 => ?_) (fun c_65 => ?_)
          · skip
            refine lv_iconst (v := 0) hx hb dX12_allows_120 (by decide) ?_
            exact maI hQ hx hb hr hlk hP hS ⟨hT, FA, FF, (by (try simp only [ti_0]); first | omega | (intro h9; omega) | (simp; done) | (refine ⟨?_, ?_⟩ <;> intros <;> omega) | (refine ⟨?_, ?_, ?_⟩ <;> intros <;> omega))⟩ dX12_allows_121
          · skip
            refine lv_iload hx hb dX12_allows_114 (lv_at hl 0 rfl) ?_
            refine lv_iconst (v := 5) hx hb dX12_allows_116 (by decide) ?_
            refine bi_ne (tgt := 122) hx hb rfl ti_5 dX12_allows_117 (by decide) (fun c_66 => ?_) (fun c_66 => ?_)
            · skip
              refine lv_iload hx hb dX12_allows_122 (lv_at hl 0 rfl) ?_
              refine lv_iconst (v := (-1)) hx hb dX12_allows_124 (by decide) ?_
              refine bi_ne (tgt := 154) hx hb rfl ti_m1 dX12_allows_125 (by decide) (fun c_67 => ?_) (fun c_67 => ?_)
              · skip
                refine lv_iload hx hb dX12_allows_154 (lv_at hl 6 rfl) ?_
                refine lv_iload hx hb dX12_allows_156 (lv_at hl 0 rfl) ?_
                refine bi_eq (tgt := 173) hx hb rfl rfl dX12_allows_158 (by decide) (fun c_68 => ?_) (fun c_68 => ?_)
                · skip
                  refine lv_iload hx hb dX12_allows_173 (lv_at hl 5 rfl) ?_
                  refine bz_eq (tgt := 204) hx hb rfl dX12_allows_175 (by decide) (fun c_69 => ?_) (fun c_69 => ?_)
                  · skip
                    refine lv_iconst (v := 0) hx hb dX12_allows_204 (by decide) ?_
                    exact maI hQ hx hb hr hlk hP hS ⟨hT, FA, FF, (by (try simp only [ti_0]); first | omega | (intro h9; omega) | (simp; done) | (refine ⟨?_, ?_⟩ <;> intros <;> omega) | (refine ⟨?_, ?_, ?_⟩ <;> intros <;> omega))⟩ dX12_allows_205
                  · skip
                    refine lv_iload hx hb dX12_allows_178 (lv_at hl 6 rfl) ?_
                    refine lv_iload hx hb dX12_allows_180 (lv_at hl 0 rfl) ?_
                    refine bi_eq (tgt := 204) hx hb rfl rfl dX12_allows_182 (by decide) (fun c_70 => ?_) (fun c_70 => ?_)
                    · skip
                      refine lv_iconst (v := 0) hx hb dX12_allows_204 (by decide) ?_
                      exact maI hQ hx hb hr hlk hP hS ⟨hT, FA, FF, (by (try simp only [ti_0]); first | omega | (intro h9; omega) | (simp; done) | (refine ⟨?_, ?_⟩ <;> intros <;> omega) | (refine ⟨?_, ?_, ?_⟩ <;> intros <;> omega))⟩ dX12_allows_205
                    · skip
                      refine lv_iload hx hb dX12_allows_185 (lv_at hl 6 rfl) ?_
                      refine lv_iconst (v := 4) hx hb dX12_allows_187 (by decide) ?_
                      refine bi_eq (tgt := 204) hx hb rfl ti_4 dX12_allows_188 (by decide) (fun c_71 => ?_) (fun c_71 => ?_)
                      · skip
                        refine lv_iconst (v := 0) hx hb dX12_allows_204 (by decide) ?_
                        exact maI hQ hx hb hr hlk hP hS ⟨hT, FA, FF, (by (try simp only [ti_0]); first | omega | (intro h9; omega) | (simp; done) | (refine ⟨?_, ?_⟩ <;> intros <;> omega) | (refine ⟨?_, ?_, ?_⟩ <;> intros <;> omega))⟩ dX12_allows_205
                      · skip
                        refine lv_aload_n hx hb dX12_allows_191 rfl (lv_at hl 1 rfl) ?_
                        refine lv_iload_n hx hb dX12_allows_192 rfl (lv_at hl 2 rfl) ?_
                        refine lv_iconst (v := 4) hx hb dX12_allows_193 (by decide) ?_
                        have hq_72 : 0 ≤ x1.toInt ∧ x1.toInt ≤ 46440 ∧ x1.toInt % 1290 = 0 := by (try simp only [ti_4]); first | assumption | omega | (intros; omega)
                        refine zcS (zrV (As := [.int x1, .int 4]) (b := a0) (rest := []) C hs hP hS (c_X12_has l D K hM f_42 A_42 hT a0 ha0 hk0 x1 4 hq_72) m_X12_has wm_X12_133 (zrecv hs hP ha0 (zF_11 hk0) rfl) ⟨by decide, by decide⟩ hl.1 (Nat.le_of_ble_eq_true rfl) dX12_allows_194) (fun x_73 p_73 => ?_)
                        refine bz_eq (tgt := 204) hx hb rfl dX12_allows_197 (by decide) (fun c_74 => ?_) (fun c_74 => ?_)
                        · skip
                          refine lv_iconst (v := 0) hx hb dX12_allows_204 (by decide) ?_
                          exact maI hQ hx hb hr hlk hP hS ⟨hT, FA, FF, (by (try simp only [ti_0]); first | omega | (intro h9; omega) | (simp; done) | (refine ⟨?_, ?_⟩ <;> intros <;> omega) | (refine ⟨?_, ?_, ?_⟩ <;> intros <;> omega))⟩ dX12_allows_205
                        · skip
                          refine lv_iconst (v := 2) hx hb dX12_allows_200 (by decide) ?_
                          refine lv_goto (tgt := 205) hx hb dX12_allows_201 (by decide) ?_
                          exact maI hQ hx hb hr hlk hP hS ⟨hT, FA, FF, (by (try simp only [ti_2]); first | omega | (intro h9; omega) | (simp; done) | (refine ⟨?_, ?_⟩ <;> intros <;> omega) | (refine ⟨?_, ?_, ?_⟩ <;> intros <;> omega))⟩ dX12_allows_205
                · skip
                  refine lv_aload_n hx hb dX12_allows_161 rfl (lv_at hl 1 rfl) ?_
                  refine lv_iload_n hx hb dX12_allows_162 rfl (lv_at hl 2 rfl) ?_
                  refine lv_iload hx hb dX12_allows_163 (lv_at hl 0 rfl) ?_
                  have g_75 := z_rng y_62
                  have hq_76 : 0 ≤ x1.toInt ∧ x1.toInt ≤ 46440 ∧ x1.toInt % 1290 = 0 := by first | assumption | omega | (intros; omega)
                  refine zcS (zrV (As := [.int x1, .int y_62]) (b := a0) (rest := []) C hs hP hS (c_X12_has l D K hM f_42 A_42 hT a0 ha0 hk0 x1 y_62 hq_76) m_X12_has wm_X12_133 (zrecv hs hP ha0 (zF_11 hk0) rfl) ⟨by decide, by decide⟩ hl.1 (Nat.le_of_ble_eq_true rfl) dX12_allows_165) (fun x_77 p_77 => ?_)
                  refine bz_eq (tgt := 173) hx hb rfl dX12_allows_168 (by decide) (fun c_78 => ?_) (fun c_78 => ?_)
                  · skip
                    refine lv_iload hx hb dX12_allows_173 (lv_at hl 5 rfl) ?_
                    refine bz_eq (tgt := 204) hx hb rfl dX12_allows_175 (by decide) (fun c_79 => ?_) (fun c_79 => ?_)
                    · skip
                      refine lv_iconst (v := 0) hx hb dX12_allows_204 (by decide) ?_
                      exact maI hQ hx hb hr hlk hP hS ⟨hT, FA, FF, (by (try simp only [ti_0]); first | omega | (intro h9; omega) | (simp; done) | (refine ⟨?_, ?_⟩ <;> intros <;> omega) | (refine ⟨?_, ?_, ?_⟩ <;> intros <;> omega))⟩ dX12_allows_205
                    · skip
                      refine lv_iload hx hb dX12_allows_178 (lv_at hl 6 rfl) ?_
                      refine lv_iload hx hb dX12_allows_180 (lv_at hl 0 rfl) ?_
                      refine bi_eq (tgt := 204) hx hb rfl rfl dX12_allows_182 (by decide) (fun c_80 => ?_) (fun c_80 => ?_)
                      · skip
                        refine lv_iconst (v := 0) hx hb dX12_allows_204 (by decide) ?_
                        exact maI hQ hx hb hr hlk hP hS ⟨hT, FA, FF, (by (try simp only [ti_0]); first | omega | (intro h9; omega) | (simp; done) | (refine ⟨?_, ?_⟩ <;> intros <;> omega) | (refine ⟨?_, ?_, ?_⟩ <;> intros <;> omega))⟩ dX12_allows_205
                      · skip
                        refine lv_iload hx hb dX12_allows_185 (lv_at hl 6 rfl) ?_
                        refine lv_iconst (v := 4) hx hb dX12_allows_187 (by decide) ?_
                        refine bi_eq (tgt := 204) hx hb rfl ti_4 dX12_allows_188 (by decide) (fun c_81 => ?_) (fun c_81 => ?_)
                        · skip
                          refine lv_iconst (v := 0) hx hb dX12_allows_204 (by decide) ?_
                          exact maI hQ hx hb hr hlk hP hS ⟨hT, FA, FF, (by (try simp only [ti_0]); first | omega | (intro h9; omega) | (simp; done) | (refine ⟨?_, ?_⟩ <;> intros <;> omega) | (refine ⟨?_, ?_, ?_⟩ <;> intros <;> omega))⟩ dX12_allows_205
                        · skip
                          refine lv_aload_n hx hb dX12_allows_191 rfl (lv_at hl 1 rfl) ?_
                          refine lv_iload_n hx hb dX12_allows_192 rfl (lv_at hl 2 rfl) ?_
                          refine lv_iconst (v := 4) hx hb dX12_allows_193 (by decide) ?_
                          have hq_82 : 0 ≤ x1.toInt ∧ x1.toInt ≤ 46440 ∧ x1.toInt % 1290 = 0 := by (try simp only [ti_4]); first | assumption | omega | (intros; omega)
                          refine zcS (zrV (As := [.int x1, .int 4]) (b := a0) (rest := []) C hs hP hS (c_X12_has l D K hM f_42 A_42 hT a0 ha0 hk0 x1 4 hq_82) m_X12_has wm_X12_133 (zrecv hs hP ha0 (zF_11 hk0) rfl) ⟨by decide, by decide⟩ hl.1 (Nat.le_of_ble_eq_true rfl) dX12_allows_194) (fun x_83 p_83 => ?_)
                          refine bz_eq (tgt := 204) hx hb rfl dX12_allows_197 (by decide) (fun c_84 => ?_) (fun c_84 => ?_)
                          · skip
                            refine lv_iconst (v := 0) hx hb dX12_allows_204 (by decide) ?_
                            exact maI hQ hx hb hr hlk hP hS ⟨hT, FA, FF, (by (try simp only [ti_0]); first | omega | (intro h9; omega) | (simp; done) | (refine ⟨?_, ?_⟩ <;> intros <;> omega) | (refine ⟨?_, ?_, ?_⟩ <;> intros <;> omega))⟩ dX12_allows_205
                          · skip
                            refine lv_iconst (v := 2) hx hb dX12_allows_200 (by decide) ?_
                            refine lv_goto (tgt := 205) hx hb dX12_allows_201 (by decide) ?_
                            exact maI hQ hx hb hr hlk hP hS ⟨hT, FA, FF, (by (try simp only [ti_2]); first | omega | (intro h9; omega) | (simp; done) | (refine ⟨?_, ?_⟩ <;> intros <;> omega) | (refine ⟨?_, ?_, ?_⟩ <;> intros <;> omega))⟩ dX12_allows_205
                  · skip
                    refine lv_iconst (v := 1) hx hb dX12_allows_171 (by decide) ?_
                    exact maI hQ hx hb hr hlk hP hS ⟨hT, FA, FF, (by (try simp only [ti_1]); first | omega | (intro h9; omega) | (simp; done) | (refine ⟨?_, ?_⟩ <;> intros <;> omega) | (refine ⟨?_, ?_, ?_⟩ <;> intros <;> omega))⟩ dX12_allows_172
              · skip
                refine lv_iload_n hx hb dX12_allows_128 rfl (lv_at hl 4 rfl) ?_
                refine lv_iconst (v := 2) hx hb dX12_allows_129 (by decide) ?_
                refine bi_ne (tgt := 152) hx hb rfl ti_2 dX12_allows_130 (by decide) (fun c_85 => ?_) (fun c_85 => ?_)
                · skip
                  refine lv_iconst (v := 0) hx hb dX12_allows_152 (by decide) ?_
                  exact maI hQ hx hb hr hlk hP hS ⟨hT, FA, FF, (by (try simp only [ti_0]); first | omega | (intro h9; omega) | (simp; done) | (refine ⟨?_, ?_⟩ <;> intros <;> omega) | (refine ⟨?_, ?_, ?_⟩ <;> intros <;> omega))⟩ dX12_allows_153
                · skip
                  refine lv_iload hx hb dX12_allows_133 (lv_at hl 6 rfl) ?_
                  refine lv_iconst (v := 3) hx hb dX12_allows_135 (by decide) ?_
                  refine bi_ne (tgt := 152) hx hb rfl ti_3 dX12_allows_136 (by decide) (fun c_86 => ?_) (fun c_86 => ?_)
                  · skip
                    refine lv_iconst (v := 0) hx hb dX12_allows_152 (by decide) ?_
                    exact maI hQ hx hb hr hlk hP hS ⟨hT, FA, FF, (by (try simp only [ti_0]); first | omega | (intro h9; omega) | (simp; done) | (refine ⟨?_, ?_⟩ <;> intros <;> omega) | (refine ⟨?_, ?_, ?_⟩ <;> intros <;> omega))⟩ dX12_allows_153
                  · skip
                    refine lv_aload_n hx hb dX12_allows_139 rfl (lv_at hl 1 rfl) ?_
                    refine lv_iload_n hx hb dX12_allows_140 rfl (lv_at hl 2 rfl) ?_
                    refine lv_iconst (v := 3) hx hb dX12_allows_141 (by decide) ?_
                    have hq_87 : 0 ≤ x1.toInt ∧ x1.toInt ≤ 46440 ∧ x1.toInt % 1290 = 0 := by (try simp only [ti_3]); first | assumption | omega | (intros; omega)
                    refine zcS (zrV (As := [.int x1, .int 3]) (b := a0) (rest := []) C hs hP hS (c_X12_hasOther l D K hM f_42 A_42 hT a0 ha0 hk0 x1 3 hq_87) m_X12_hasOther wm_X12_130 (zrecv hs hP ha0 (zF_11 hk0) rfl) ⟨by decide, by decide⟩ hl.1 (Nat.le_of_ble_eq_true rfl) dX12_allows_142) (fun x_88 p_88 => ?_)
                    refine bz_eq (tgt := 152) hx hb rfl dX12_allows_145 (by decide) (fun c_89 => ?_) (fun c_89 => ?_)
                    · skip
                      refine lv_iconst (v := 0) hx hb dX12_allows_152 (by decide) ?_
                      exact maI hQ hx hb hr hlk hP hS ⟨hT, FA, FF, (by (try simp only [ti_0]); first | omega | (intro h9; omega) | (simp; done) | (refine ⟨?_, ?_⟩ <;> intros <;> omega) | (refine ⟨?_, ?_, ?_⟩ <;> intros <;> omega))⟩ dX12_allows_153
                    · skip
                      refine lv_iconst (v := 3) hx hb dX12_allows_148 (by decide) ?_
                      refine lv_goto (tgt := 153) hx hb dX12_allows_149 (by decide) ?_
                      exact maI hQ hx hb hr hlk hP hS ⟨hT, FA, FF, (by (try simp only [ti_3]); first | omega | (intro h9; omega) | (simp; done) | (refine ⟨?_, ?_⟩ <;> intros <;> omega) | (refine ⟨?_, ?_, ?_⟩ <;> intros <;> omega))⟩ dX12_allows_153
            · skip
              refine lv_iconst (v := 0) hx hb dX12_allows_120 (by decide) ?_
              exact maI hQ hx hb hr hlk hP hS ⟨hT, FA, FF, (by (try simp only [ti_0]); first | omega | (intro h9; omega) | (simp; done) | (refine ⟨?_, ?_⟩ <;> intros <;> omega) | (refine ⟨?_, ?_, ?_⟩ <;> intros <;> omega))⟩ dX12_allows_121
        refine bz_ne (tgt := 95) hx hb rfl dX12_allows_88 (by decide) (fun c_51 => ?_) (fun c_51 => ?_)
        · skip
          refine lv_aload_n hx hb dX12_allows_95 rfl (lv_at hl 1 rfl) ?_
          refine lv_iload_n hx hb dX12_allows_96 rfl (lv_at hl 2 rfl) ?_
          refine lv_aload_n hx hb dX12_allows_97 rfl (lv_at hl 1 rfl) ?_
          refine mg_15 C hs hP ha0 hk0 wf_X12_39 dX12_allows_98 ?_
          have hf_90 := hO.r (j := 15) ha0 hk0 (rfl : zX 11 15 = some (55, 4))
          refine lv_iconst (v := 0) hx hb dX12_allows_101 (by decide) ?_
          have hin_91 : vp_in 0 (zn K (zr K a0 15)) := vp_in_iff.mpr (by rw [ti_0, (hf_90.2.2 (by decide))]; decide)
          refine mld_55 C hs hP hf_90.1 hf_90.2.1 hin_91 dX12_allows_102 ?_
          have ep_92 : (0 : Int32).toNatClampNeg = 0 := by decide +kernel
          rw [ep_92]
          have ev_93 : A_42 55 0 = A 55 0 := by rw [hA_42 55 (by decide), FA_39 55 (by decide)]
          have tv_94 := ra_55 (i := 0) hT (by rw [ti_0]; decide) (by rw [ti_0]; decide)
          rw [ep_92] at tv_94
          rw [ev_93] at tv_94
          rw [ev_93]
          have g_95 := z_rng (A 55 0)
          have hq_96 : 0 ≤ x1.toInt ∧ x1.toInt ≤ 46440 ∧ x1.toInt % 1290 = 0 := by first | assumption | omega | (intros; omega)
          have hq_97 : 0 ≤ (A 55 0).toInt ∧ (A 55 0).toInt ≤ 59 := by first | assumption | omega | (intros; omega)
          refine zcS (zrV (As := [.int x1, .int (A 55 0)]) (b := a0) (rest := []) C hs hP hS (c_X12_colour l D K hM f_42 A_42 hT a0 ha0 hk0 x1 (A 55 0) hq_96 hq_97) m_X12_colour wm_X12_120 (zrecv hs hP ha0 (zF_11 hk0) rfl) ⟨by decide, by decide⟩ hl.1 (Nat.le_of_ble_eq_true rfl) dX12_allows_103) (fun x_98 p_98 => ?_)
          have pp_98 : x_98 = mcol (A_42 40) x1 (A 55 0) := p_98
          have ev_99 : A_42 40 = A 40 := by rw [hA_42 40 (by decide), FA_39 40 (by decide)]
          rw [ev_99] at pp_98
          have pq_98 := congrArg Int32.toInt pp_98
          exact J_106_63 x_98 _ (lv_sub hl [1, 2, 3, 4, 5, 0] rfl)
        · skip
          refine lv_iconst (v := (-1)) hx hb dX12_allows_91 (by decide) ?_
          refine lv_goto (tgt := 106) hx hb dX12_allows_92 (by decide) ?_
          exact J_106_63 (-1) _ (lv_sub hl [1, 2, 3, 4, 5, 0] rfl)
      refine bz_ne (tgt := 54) hx hb rfl dX12_allows_46 (by decide) (fun c_20 => ?_) (fun c_20 => ?_)
      · skip
        refine lv_aload_n hx hb dX12_allows_54 rfl (lv_at hl 0 rfl) ?_
        refine lv_iload hx hb dX12_allows_55 (lv_at hl 4 rfl) ?_
        have J_67_102 : ∀ (y_101 : Int32) (ls : Array Slot), lv_has ls 7 [(0, .ref a0), (1, .int x1), (2, .int x2), (3, .int (A 40 (x1.toInt + 3).toNat)), (4, .int y_8)] → W p l e (rmd 2) s m args below meth c H locs 0 0 Q (F0 m 67 ls [.int y_101, .ref a0]) := by
          intro y_101 ls hl
          have g_104 := z_rng y_101
          have hq_105 : (f_18 11).toInt ≤ 2000000000 := by first | assumption | omega | (intros; omega)
          refine mcV (zrV (As := [.int y_101]) (b := a0) (rest := []) C hs hP hS (c_X12_body l D K hM f_18 A_18 hT a0 ha0 hk0 y_101 hq_105) m_X12_body wm_X12_124 (zrecv hs hP ha0 (zF_11 hk0) rfl) ⟨by decide, by decide⟩ hl.1 (Nat.le_of_ble_eq_true rfl) dX12_allows_67) hS (fun f_106 A_106 H locs p_106 hP hS => ?_)
          obtain ⟨hT, hA_106, hF_106, pp_106⟩ := p_106
          have pp_106 : (f_18 11).toInt ≤ (f_106 11).toInt ∧ (f_106 11).toInt ≤ (f_18 11).toInt + 1 ∧ ((f_18 12).toInt ≠ 0 → (f_106 11).toInt = (f_18 11).toInt) := pp_106
          have ev_107 : f_18 12 = f 12 := by rw [FF_18 12 (by decide)]
          rw [ev_107] at pp_106
          have FA := frA FA hA_106 (by decide)
          have FF := frF FF hF_106 (by decide)
          exact J_70_38 f_106 A_106 _ _ _ (by omega) FA FF hT hP hS (lv_sub hl [0, 1, 2, 3, 4] rfl)
        refine bz_eq (tgt := 65) hx hb rfl dX12_allows_57 (by decide) (fun c_100 => ?_) (fun c_100 => ?_)
        · skip
          refine lv_bipush (v := 23) hx hb dX12_allows_65 (by decide) ?_
          exact J_67_102 23 _ (lv_sub hl [0, 1, 2, 3, 4] rfl)
        · skip
          refine lv_bipush (v := 22) hx hb dX12_allows_60 (by decide) ?_
          refine lv_goto (tgt := 67) hx hb dX12_allows_62 (by decide) ?_
          exact J_67_102 22 _ (lv_sub hl [0, 1, 2, 3, 4] rfl)
      · skip
        refine lv_iload_n hx hb dX12_allows_49 rfl (lv_at hl 3 rfl) ?_
        refine lv_iconst (v := 2) hx hb dX12_allows_50 (by decide) ?_
        refine bi_ne (tgt := 70) hx hb rfl ti_2 dX12_allows_51 (by decide) (fun c_108 => ?_) (fun c_108 => ?_)
        · skip
          exact J_70_38 f_18 A_18 _ _ _ (by omega) FA FF hT hP hS (lv_sub hl [0, 1, 2, 3, 4] rfl)
        · skip
          refine lv_aload_n hx hb dX12_allows_54 rfl (lv_at hl 0 rfl) ?_
          refine lv_iload hx hb dX12_allows_55 (lv_at hl 4 rfl) ?_
          have J_67_111 : ∀ (y_110 : Int32) (ls : Array Slot), lv_has ls 7 [(0, .ref a0), (1, .int x1), (2, .int x2), (3, .int (A 40 (x1.toInt + 3).toNat)), (4, .int y_8)] → W p l e (rmd 2) s m args below meth c H locs 0 0 Q (F0 m 67 ls [.int y_110, .ref a0]) := by
            intro y_110 ls hl
            have g_113 := z_rng y_110
            have hq_114 : (f_18 11).toInt ≤ 2000000000 := by first | assumption | omega | (intros; omega)
            refine mcV (zrV (As := [.int y_110]) (b := a0) (rest := []) C hs hP hS (c_X12_body l D K hM f_18 A_18 hT a0 ha0 hk0 y_110 hq_114) m_X12_body wm_X12_124 (zrecv hs hP ha0 (zF_11 hk0) rfl) ⟨by decide, by decide⟩ hl.1 (Nat.le_of_ble_eq_true rfl) dX12_allows_67) hS (fun f_115 A_115 H locs p_115 hP hS => ?_)
            obtain ⟨hT, hA_115, hF_115, pp_115⟩ := p_115
            have pp_115 : (f_18 11).toInt ≤ (f_115 11).toInt ∧ (f_115 11).toInt ≤ (f_18 11).toInt + 1 ∧ ((f_18 12).toInt ≠ 0 → (f_115 11).toInt = (f_18 11).toInt) := pp_115
            have ev_116 : f_18 12 = f 12 := by rw [FF_18 12 (by decide)]
            rw [ev_116] at pp_115
            have FA := frA FA hA_115 (by decide)
            have FF := frF FF hF_115 (by decide)
            exact J_70_38 f_115 A_115 _ _ _ (by omega) FA FF hT hP hS (lv_sub hl [0, 1, 2, 3, 4] rfl)
          refine bz_eq (tgt := 65) hx hb rfl dX12_allows_57 (by decide) (fun c_109 => ?_) (fun c_109 => ?_)
          · skip
            refine lv_bipush (v := 23) hx hb dX12_allows_65 (by decide) ?_
            exact J_67_111 23 _ (lv_sub hl [0, 1, 2, 3, 4] rfl)
          · skip
            refine lv_bipush (v := 22) hx hb dX12_allows_60 (by decide) ?_
            refine lv_goto (tgt := 67) hx hb dX12_allows_62 (by decide) ?_
            exact J_67_111 22 _ (lv_sub hl [0, 1, 2, 3, 4] rfl)
    refine bi_ne (tgt := 44) hx hb rfl ti_4 dX12_allows_35 (by decide) (fun c_14 => ?_) (fun c_14 => ?_)
    · skip
      exact J_44_17 f A _ _ _ (by omega) FA FF hT hP hS (lv_sub hl [1, 2, 3, 4, 0] rfl)
    · skip
      refine lv_aload_n hx hb dX12_allows_38 rfl (lv_at hl 1 rfl) ?_
      refine lv_bipush (v := 24) hx hb dX12_allows_39 (by decide) ?_
      have hq_117 : (f 11).toInt ≤ 2000000000 := by (try simp only [ti_24]); first | assumption | omega | (intros; omega)
      refine mcV (zrV (As := [.int 24]) (b := a0) (rest := []) C hs hP hS (c_X12_body l D K hM f A hT a0 ha0 hk0 24 hq_117) m_X12_body wm_X12_124 (zrecv hs hP ha0 (zF_11 hk0) rfl) ⟨by decide, by decide⟩ hl.1 (Nat.le_of_ble_eq_true rfl) dX12_allows_41) hS (fun f_118 A_118 H locs p_118 hP hS => ?_)
      obtain ⟨hT, hA_118, hF_118, pp_118⟩ := p_118
      have pp_118 : (f 11).toInt ≤ (f_118 11).toInt ∧ (f_118 11).toInt ≤ (f 11).toInt + 1 ∧ ((f 12).toInt ≠ 0 → (f_118 11).toInt = (f 11).toInt) := pp_118
      try simp only [ti_24] at pp_118
      have FA := frA FA hA_118 (by decide)
      have FF := frF FF hF_118 (by decide)
      exact J_44_17 f_118 A_118 _ _ _ (by omega) FA FF hT hP hS (lv_sub hl [1, 2, 3, 4, 0] rfl)
  refine bi_eq (tgt := 19) hx hb rfl ti_1 dX12_allows_11 (by decide) (fun c_6 => ?_) (fun c_6 => ?_)
  · skip
    refine lv_iconst (v := 1) hx hb dX12_allows_19 (by decide) ?_
    refine lv_goto (tgt := 24) hx hb dX12_allows_20 (by decide) ?_
    exact J_24_9 1 _ (Or.inr rfl) (lv_sub hl [1, 2, 3, 0] rfl)
  · skip
    refine lv_iload_n hx hb dX12_allows_14 rfl (lv_at hl 0 rfl) ?_
    refine lv_iconst (v := 3) hx hb dX12_allows_15 (by decide) ?_
    refine bi_ne (tgt := 23) hx hb rfl ti_3 dX12_allows_16 (by decide) (fun c_119 => ?_) (fun c_119 => ?_)
    · skip
      refine lv_iconst (v := 0) hx hb dX12_allows_23 (by decide) ?_
      exact J_24_9 0 _ (Or.inl rfl) (lv_sub hl [1, 2, 3, 0] rfl)
    · skip
      refine lv_iconst (v := 1) hx hb dX12_allows_19 (by decide) ?_
      refine lv_goto (tgt := 24) hx hb dX12_allows_20 (by decide) ?_
      exact J_24_9 1 _ (Or.inr rfl) (lv_sub hl [1, 2, 3, 0] rfl)
set_option maxHeartbeats 4000000 in
set_option maxRecDepth 100000 in
theorem c_X12_scorePlainly (l : Launch) (D : va_G) (K : zK) (hM : mK K) (f : Nat → Int32) (A : Nat → Nat → Int32) (hT : mT f A) (a0 : Nat) (ha0 : a0 ∈ zl K) (hk0 : zk K a0 = 11) (x1 : Int32) (x2 : Int32) (hp0 : 0 ≤ x1.toInt ∧ x1.toInt ≤ 46440 ∧ x1.toInt % 1290 = 0) (hp1 : (f 11).toInt ≤ 1990000000) : Met l yX12_scorePlainly (zc yX12_scorePlainly cX12_scorePlainly 5 (some .int)) (rmd 1) (va_Pc [.ref a0, .int x1, .int x2] (zB D K (mV K f A))) (mQi D K (fun r f' A' => mT f' A' ∧ (∀ k, k ∉ ([50] : List Nat) → A' k = A k) ∧ (∀ k, k ∉ ([11] : List Nat) → f' k = f k) ∧ (f 11).toInt ≤ (f' 11).toInt ∧ (f' 11).toInt ≤ (f 11).toInt + 2 ∧ ((f 12).toInt ≠ 0 → (f' 11).toInt = (f 11).toInt))) 0 0 (zA K) := by
  refine zin (by decide) (Nat.le_of_ble_eq_true rfl) ?_
  intro p e s m args below meth c ls Q hQ C hr hlk hP hs hl
  have C : CallFix p m c cX12_scorePlainly 5 s args zw RX12 := C
  obtain ⟨hx, hb, hml, hown, hts⟩ := id C
  have hO := hM.1
  have hS : va_S (zA K) s.heap s.heap [] := va_S.rf
  have FA : ∀ k, k ∉ ([50] : List Nat) → A k = A k := fun _ _ => rfl
  have FF : ∀ k, k ∉ ([11] : List Nat) → f k = f k := fun _ _ => rfl
  have hl : lv_has ls 5 [(0, .ref a0), (1, .int x1), (2, .int x2)] := hl
  refine lv_iload_n hx hb dX12_scorePlainly_0 rfl (lv_at hl 2 rfl) ?_
  have J_10_4 : ∀ (f_5 : Nat → Int32) (A_5 : Nat → Nat → Int32) (H : Heap) (locs : List Loc) (ls : Array Slot), ((f 11).toInt ≤ (f_5 11).toInt ∧ (f_5 11).toInt ≤ (f 11).toInt + 1 ∧ ((f 12).toInt ≠ 0 → (f_5 11).toInt = (f 11).toInt)) → (∀ k, k ∉ ([50] : List Nat) → A_5 k = A k) → (∀ k, k ∉ ([11] : List Nat) → f_5 k = f k) → mT f_5 A_5 → va_P D vwCl (zW K (mV K f_5 A_5)) H → va_S (zA K) s.heap H locs → lv_has ls 5 [(0, .ref a0), (1, .int x1), (2, .int x2)] → W p l e (rmd 1) s m args below meth c H locs 0 0 Q (F0 m 10 ls []) := by
    intro f_5 A_5 H locs ls iv_5_0 FA_5 FF_5 hT hP hS hl
    have FA := FA_5
    have FF := FF_5
    refine lv_aload_n hx hb dX12_scorePlainly_10 rfl (lv_at hl 0 rfl) ?_
    refine lv_bipush (v := 41) hx hb dX12_scorePlainly_11 (by decide) ?_
    have hq_7 : (f_5 11).toInt ≤ 2000000000 := by (try simp only [ti_41]); first | assumption | omega | (intros; omega)
    refine mcV (zrV (As := [.int 41]) (b := a0) (rest := []) C hs hP hS (c_X12_body l D K hM f_5 A_5 hT a0 ha0 hk0 41 hq_7) m_X12_body wm_X12_124 (zrecv hs hP ha0 (zF_11 hk0) rfl) ⟨by decide, by decide⟩ hl.1 (Nat.le_of_ble_eq_true rfl) dX12_scorePlainly_13) hS (fun f_8 A_8 H locs p_8 hP hS => ?_)
    obtain ⟨hT, hA_8, hF_8, pp_8⟩ := p_8
    have pp_8 : (f_5 11).toInt ≤ (f_8 11).toInt ∧ (f_8 11).toInt ≤ (f_5 11).toInt + 1 ∧ ((f_5 12).toInt ≠ 0 → (f_8 11).toInt = (f_5 11).toInt) := pp_8
    have ev_9 : f_5 12 = f 12 := by rw [FF_5 12 (by decide)]
    rw [ev_9] at pp_8
    try simp only [ti_41] at pp_8
    have FA := frA FA hA_8 (by decide)
    have FF := frF FF hF_8 (by decide)
    refine lv_iconst (v := 1) hx hb dX12_scorePlainly_16 (by decide) ?_
    refine lv_istore_n (lv' := [(3, .int 1), (0, .ref a0), (1, .int x1), (2, .int x2)]) hx hb dX12_scorePlainly_17 rfl hl (by decide) rfl (fun ls hl => ?_)
    refine lv_iconst (v := 0) hx hb dX12_scorePlainly_18 (by decide) ?_
    refine lv_istore (lv' := [(4, .int 0), (3, .int 1), (0, .ref a0), (1, .int x1), (2, .int x2)]) hx hb dX12_scorePlainly_19 hl (by decide) rfl (fun ls hl => ?_)
    have L_21_12 : ∀ (n_12 : Nat) (y_10 : Int32) (y_11 : Int32) (ls : Array Slot), (2147483648 - y_10.toInt).toNat < n_12 → 0 ≤ y_10.toInt → lv_has ls 5 [(4, .int y_10), (3, .int y_11), (0, .ref a0), (1, .int x1), (2, .int x2)] → W p l e (rmd 1) s m args below meth c H locs 0 0 Q (F0 m 21 ls []) := by
      intro n_12
      induction n_12 with
      | zero => intro y_10 y_11 ls hm_12; exact absurd hm_12 (Nat.not_lt_zero _)
      | succ n_12 ih_12 =>
        intro y_10 y_11 ls hm_12 iv_13_0 hl
        refine lv_iload hx hb dX12_scorePlainly_21 (lv_at hl 0 rfl) ?_
        refine lv_aload_n hx hb dX12_scorePlainly_23 rfl (lv_at hl 2 rfl) ?_
        refine mg_16 C hs hP ha0 hk0 wf_X12_127 dX12_scorePlainly_24 ?_
        have ev_14 : f_8 16 = f 16 := by rw [hF_8 16 (by decide), FF_5 16 (by decide)]
        rw [ev_14]
        have tf_15 : 0 ≤ (f 16).toInt ∧ (f 16).toInt ≤ 4 := by rw [← ev_14]; exact hT.1 16
        refine bi_ge (tgt := 64) hx hb rfl rfl dX12_scorePlainly_27 (by decide) (fun c_16 => ?_) (fun c_16 => ?_)
        · skip
          refine lv_iload_n hx hb dX12_scorePlainly_64 rfl (lv_at hl 1 rfl) ?_
          have g_17 := z_rng y_11
          exact maI hQ hx hb hr hlk hP hS ⟨hT, FA, FF, (by first | omega | (intro h9; omega) | (simp; done) | (refine ⟨?_, ?_⟩ <;> intros <;> omega) | (refine ⟨?_, ?_, ?_⟩ <;> intros <;> omega))⟩ dX12_scorePlainly_65
        · skip
          refine lv_iload_n hx hb dX12_scorePlainly_30 rfl (lv_at hl 4 rfl) ?_
          refine bz_eq (tgt := 64) hx hb rfl dX12_scorePlainly_31 (by decide) (fun c_18 => ?_) (fun c_18 => ?_)
          · skip
            refine lv_iload_n hx hb dX12_scorePlainly_64 rfl (lv_at hl 1 rfl) ?_
            have g_19 := z_rng y_11
            exact maI hQ hx hb hr hlk hP hS ⟨hT, FA, FF, (by first | omega | (intro h9; omega) | (simp; done) | (refine ⟨?_, ?_⟩ <;> intros <;> omega) | (refine ⟨?_, ?_, ?_⟩ <;> intros <;> omega))⟩ dX12_scorePlainly_65
          · skip
            refine lv_iload_n hx hb dX12_scorePlainly_34 rfl (lv_at hl 1 rfl) ?_
            refine lv_aload_n hx hb dX12_scorePlainly_35 rfl (lv_at hl 2 rfl) ?_
            refine lv_iload_n hx hb dX12_scorePlainly_36 rfl (lv_at hl 3 rfl) ?_
            refine lv_aload_n hx hb dX12_scorePlainly_37 rfl (lv_at hl 2 rfl) ?_
            refine mg_15 C hs hP ha0 hk0 wf_X12_39 dX12_scorePlainly_38 ?_
            have hf_20 := hO.r (j := 15) ha0 hk0 (rfl : zX 11 15 = some (55, 4))
            refine lv_iload hx hb dX12_scorePlainly_41 (lv_at hl 0 rfl) ?_
            have g_22 := z_rng y_10
            have hin_21 : vp_in y_10 (zn K (zr K a0 15)) := vp_in_iff.mpr (by rw [(hf_20.2.2 (by decide))]; refine ⟨?_, ?_⟩ <;> omega)
            refine mld_55 C hs hP hf_20.1 hf_20.2.1 hin_21 dX12_scorePlainly_43 ?_
            have ev_23 : A_8 55 y_10.toNatClampNeg = A 55 y_10.toNatClampNeg := by rw [hA_8 55 (by decide), FA_5 55 (by decide)]
            have tv_24 := ra_55 hT (vp_in_iff.mp hin_21).1 (by have h7 := (vp_in_iff.mp hin_21).2; rw [(hf_20.2.2 (by decide))] at h7; exact h7)
            rw [ev_23] at tv_24
            rw [ev_23]
            have g_25 := z_rng x1
            have g_26 := z_rng (A 55 y_10.toNatClampNeg)
            have hq_27 : 0 ≤ x1.toInt ∧ x1.toInt ≤ 46440 ∧ x1.toInt % 1290 = 0 := by first | assumption | omega | (intros; omega)
            have hq_28 : 0 ≤ (A 55 y_10.toNatClampNeg).toInt ∧ (A 55 y_10.toNatClampNeg).toInt ≤ 59 := by first | assumption | omega | (intros; omega)
            refine zcS (zrV (As := [.int x1, .int (A 55 y_10.toNatClampNeg)]) (b := a0) (rest := [.int y_11]) C hs hP hS (c_X12_colour l D K hM f_8 A_8 hT a0 ha0 hk0 x1 (A 55 y_10.toNatClampNeg) hq_27 hq_28) m_X12_colour wm_X12_120 (zrecv hs hP ha0 (zF_11 hk0) rfl) ⟨by decide, by decide⟩ hl.1 (Nat.le_of_ble_eq_true rfl) dX12_scorePlainly_44) (fun x_29 p_29 => ?_)
            have pp_29 : x_29 = mcol (A_8 40) x1 (A 55 y_10.toNatClampNeg) := p_29
            have ev_30 : A_8 40 = A 40 := by rw [hA_8 40 (by decide), FA_5 40 (by decide)]
            rw [ev_30] at pp_29
            have pq_29 := congrArg Int32.toInt pp_29
            refine lv_iconst (v := 4) hx hb dX12_scorePlainly_47 (by decide) ?_
            have J_56_33 : ∀ (y_32 : Int32) (ls : Array Slot), (y_32 = 0 ∨ y_32 = 1) → lv_has ls 5 [(0, .ref a0), (1, .int x1), (2, .int x2), (3, .int y_11), (4, .int y_10)] → W p l e (rmd 1) s m args below meth c H locs 0 0 Q (F0 m 56 ls [.int y_32, .int y_11]) := by
              intro y_32 ls hb_y_32 hl
              refine lv_iadd hx hb dX12_scorePlainly_56 ?_
              refine lv_topi (fun x_35 ex_35 => ?_)
              refine lv_istore_n (lv' := [(3, .int x_35), (0, .ref a0), (1, .int x1), (2, .int x2), (4, .int y_10)]) hx hb dX12_scorePlainly_57 rfl hl (by decide) rfl (fun ls hl => ?_)
              obtain ⟨x_36, ex_36⟩ : ∃ y : Int32, y = y_10 + 1 := ⟨_, rfl⟩
              refine lv_iinc (v := x_36) (lv' := [(4, .int x_36), (3, .int x_35), (0, .ref a0), (1, .int x1), (2, .int x2)]) hx hb dX12_scorePlainly_58 hl (k := 4) rfl (by rw [ex_36]; rfl) (by decide) rfl (fun ls hl => ?_)
              refine lv_goto (tgt := 21) hx hb dX12_scorePlainly_61 (by decide) ?_
              obtain ⟨f_36, l_36, u_36⟩ := z_add ex_36 rfl ti_1
              try replace f_36 : x_36.toInt = y_10.toInt + 1 := by omega
              have g_37 := z_rng y_11
              have g_38 := z_rng y_32
              obtain ⟨f_35, l_35, u_35⟩ := z_add ex_35 rfl rfl
              try replace f_35 : x_35.toInt = y_11.toInt + y_32.toInt := by omega
              have g_39 := z_rng x2
              have g_40 := z_rng (f 16)
              exact ih_12 x_36 x_35 _ (by omega) (by omega) (lv_sub hl [0, 1, 2, 3, 4] rfl)
            refine bi_ne (tgt := 55) hx hb rfl ti_4 dX12_scorePlainly_48 (by decide) (fun c_31 => ?_) (fun c_31 => ?_)
            · skip
              refine lv_iconst (v := 0) hx hb dX12_scorePlainly_55 (by decide) ?_
              exact J_56_33 0 _ (Or.inl rfl) (lv_sub hl [2, 3, 4, 1, 0] rfl)
            · skip
              refine lv_iconst (v := 1) hx hb dX12_scorePlainly_51 (by decide) ?_
              refine lv_goto (tgt := 56) hx hb dX12_scorePlainly_52 (by decide) ?_
              exact J_56_33 1 _ (Or.inr rfl) (lv_sub hl [2, 3, 4, 1, 0] rfl)
    exact L_21_12 _ 0 1 _ (Nat.lt_succ_self _) (by (try simp only [ti_0, ti_1]); omega) (lv_sub hl [0, 1, 2, 3, 4] rfl)
  refine bz_eq (tgt := 10) hx hb rfl dX12_scorePlainly_1 (by decide) (fun c_1 => ?_) (fun c_1 => ?_)
  · skip
    exact J_10_4 f A _ _ _ (by omega) FA FF hT hP hS (lv_sub hl [0, 1, 2] rfl)
  · skip
    refine lv_aload_n hx hb dX12_scorePlainly_4 rfl (lv_at hl 0 rfl) ?_
    refine lv_bipush (v := 42) hx hb dX12_scorePlainly_5 (by decide) ?_
    have hq_41 : (f 11).toInt ≤ 2000000000 := by (try simp only [ti_42]); first | assumption | omega | (intros; omega)
    refine mcV (zrV (As := [.int 42]) (b := a0) (rest := []) C hs hP hS (c_X12_body l D K hM f A hT a0 ha0 hk0 42 hq_41) m_X12_body wm_X12_124 (zrecv hs hP ha0 (zF_11 hk0) rfl) ⟨by decide, by decide⟩ hl.1 (Nat.le_of_ble_eq_true rfl) dX12_scorePlainly_7) hS (fun f_42 A_42 H locs p_42 hP hS => ?_)
    obtain ⟨hT, hA_42, hF_42, pp_42⟩ := p_42
    have pp_42 : (f 11).toInt ≤ (f_42 11).toInt ∧ (f_42 11).toInt ≤ (f 11).toInt + 1 ∧ ((f 12).toInt ≠ 0 → (f_42 11).toInt = (f 11).toInt) := pp_42
    try simp only [ti_42] at pp_42
    have FA := frA FA hA_42 (by decide)
    have FF := frF FF hF_42 (by decide)
    exact J_10_4 f_42 A_42 _ _ _ (by omega) FA FF hT hP hS (lv_sub hl [0, 1, 2] rfl)
set_option maxHeartbeats 4000000 in
set_option maxRecDepth 100000 in
theorem c_X12_score (l : Launch) (D : va_G) (K : zK) (hM : mK K) (f : Nat → Int32) (A : Nat → Nat → Int32) (hT : mT f A) (a0 : Nat) (ha0 : a0 ∈ zl K) (hk0 : zk K a0 = 11) (x1 : Int32) (x2 : Int32) (hp0 : 0 ≤ x1.toInt ∧ x1.toInt ≤ 46440 ∧ x1.toInt % 1290 = 0) (hp1 : 0 ≤ x2.toInt ∧ x2.toInt ≤ 3) (hp2 : (f 11).toInt ≤ 1980000000) : Met l yX12_score (zc yX12_score cX12_score 7 (some .int)) (rmd 2) (va_Pc [.ref a0, .int x1, .int x2] (zB D K (mV K f A))) (mQi D K (fun r f' A' => mT f' A' ∧ (∀ k, k ∉ ([50] : List Nat) → A' k = A k) ∧ (∀ k, k ∉ ([11] : List Nat) → f' k = f k) ∧ (f 11).toInt ≤ (f' 11).toInt ∧ (f' 11).toInt ≤ (f 11).toInt + 4 ∧ ((f 12).toInt ≠ 0 → (f' 11).toInt = (f 11).toInt))) 0 0 (zA K) := by
  refine zin (by decide) (Nat.le_of_ble_eq_true rfl) ?_
  intro p e s m args below meth c ls Q hQ C hr hlk hP hs hl
  have C : CallFix p m c cX12_score 7 s args zw RX12 := C
  obtain ⟨hx, hb, hml, hown, hts⟩ := id C
  have hO := hM.1
  have hS : va_S (zA K) s.heap s.heap [] := va_S.rf
  have FA : ∀ k, k ∉ ([50] : List Nat) → A k = A k := fun _ _ => rfl
  have FF : ∀ k, k ∉ ([11] : List Nat) → f k = f k := fun _ _ => rfl
  have hl : lv_has ls 7 [(0, .ref a0), (1, .int x1), (2, .int x2)] := hl
  refine lv_iconst (v := 0) hx hb dX12_score_0 (by decide) ?_
  refine lv_istore_n (lv' := [(3, .int 0), (0, .ref a0), (1, .int x1), (2, .int x2)]) hx hb dX12_score_1 rfl hl (by decide) rfl (fun ls hl => ?_)
  refine lv_aload_n hx hb dX12_score_2 rfl (lv_at hl 1 rfl) ?_
  refine mg_0 C hs hP ha0 hk0 wf_X12_8 dX12_score_3 ?_
  have hf_1 := hO.r (j := 0) ha0 hk0 (rfl : zX 11 0 = some (40, 47730))
  refine lv_iload_n hx hb dX12_score_6 rfl (lv_at hl 2 rfl) ?_
  refine lv_iconst (v := 2) hx hb dX12_score_7 (by decide) ?_
  refine lv_iadd hx hb dX12_score_8 ?_
  refine lv_topi (fun x_2 ex_2 => ?_)
  have g_4 := z_rng x1
  obtain ⟨f_2, l_2, u_2⟩ := z_add ex_2 rfl ti_2
  try replace f_2 : x_2.toInt = x1.toInt + 2 := by omega
  have hin_3 : vp_in x_2 (zn K (zr K a0 0)) := vp_in_iff.mpr (by rw [(hf_1.2.2 (by decide))]; refine ⟨?_, ?_⟩ <;> omega)
  refine mld_40 C hs hP hf_1.1 hf_1.2.1 hin_3 dX12_score_9 ?_
  have ep_5 : x_2.toNatClampNeg = (x1.toInt + 2).toNat := by show x_2.toInt.toNat = _; rw [show x_2.toInt = (x1.toInt + 2) by omega]
  rw [ep_5]
  refine lv_iconst (v := 4) hx hb dX12_score_10 (by decide) ?_
  have J_22_10 : ∀ (f_11 : Nat → Int32) (A_11 : Nat → Nat → Int32) (H : Heap) (locs : List Loc) (y_9 : Int32) (ls : Array Slot), (y_9 = 0 ∨ y_9 = 1) → ((f 11).toInt ≤ (f_11 11).toInt ∧ (f_11 11).toInt ≤ (f 11).toInt + 1 ∧ ((f 12).toInt ≠ 0 → (f_11 11).toInt = (f 11).toInt)) → (∀ k, k ∉ ([50] : List Nat) → A_11 k = A k) → (∀ k, k ∉ ([11] : List Nat) → f_11 k = f k) → mT f_11 A_11 → va_P D vwCl (zW K (mV K f_11 A_11)) H → va_S (zA K) s.heap H locs → lv_has ls 7 [(0, .ref a0), (1, .int x1), (2, .int x2), (3, .int y_9)] → W p l e (rmd 2) s m args below meth c H locs 0 0 Q (F0 m 22 ls []) := by
    intro f_11 A_11 H locs y_9 ls hb_y_9 iv_11_0 FA_11 FF_11 hT hP hS hl
    have FA := FA_11
    have FF := FF_11
    refine lv_aload_n hx hb dX12_score_22 rfl (lv_at hl 0 rfl) ?_
    refine mg_0 C hs hP ha0 hk0 wf_X12_8 dX12_score_23 ?_
    refine lv_iload_n hx hb dX12_score_26 rfl (lv_at hl 1 rfl) ?_
    refine lv_iconst (v := 4) hx hb dX12_score_27 (by decide) ?_
    refine lv_iadd hx hb dX12_score_28 ?_
    refine lv_topi (fun x_13 ex_13 => ?_)
    obtain ⟨f_13, l_13, u_13⟩ := z_add ex_13 rfl ti_4
    try replace f_13 : x_13.toInt = x1.toInt + 4 := by omega
    have hin_14 : vp_in x_13 (zn K (zr K a0 0)) := vp_in_iff.mpr (by rw [(hf_1.2.2 (by decide))]; refine ⟨?_, ?_⟩ <;> omega)
    refine mld_40 C hs hP hf_1.1 hf_1.2.1 hin_14 dX12_score_29 ?_
    have ep_15 : x_13.toNatClampNeg = (x1.toInt + 4).toNat := by show x_13.toInt.toNat = _; rw [show x_13.toInt = (x1.toInt + 4) by omega]
    rw [ep_15]
    have ev_16 : A_11 40 (x1.toInt + 4).toNat = A 40 (x1.toInt + 4).toNat := by rw [FA_11 40 (by decide)]
    rw [ev_16]
    refine lv_istore (lv' := [(4, .int (A 40 (x1.toInt + 4).toNat)), (0, .ref a0), (1, .int x1), (2, .int x2), (3, .int y_9)]) hx hb dX12_score_30 hl (by decide) rfl (fun ls hl => ?_)
    refine lv_iload hx hb dX12_score_32 (lv_at hl 0 rfl) ?_
    refine lv_iconst (v := 2) hx hb dX12_score_34 (by decide) ?_
    refine bi_ne (tgt := 93) hx hb rfl ti_2 dX12_score_35 (by decide) (fun c_17 => ?_) (fun c_17 => ?_)
    · skip
      refine lv_iload hx hb dX12_score_93 (lv_at hl 0 rfl) ?_
      refine lv_iconst (v := 3) hx hb dX12_score_95 (by decide) ?_
      refine bi_ne (tgt := 145) hx hb rfl ti_3 dX12_score_96 (by decide) (fun c_18 => ?_) (fun c_18 => ?_)
      · skip
        refine lv_iload_n hx hb dX12_score_145 rfl (lv_at hl 4 rfl) ?_
        refine lv_aload_n hx hb dX12_score_146 rfl (lv_at hl 1 rfl) ?_
        refine lv_iload_n hx hb dX12_score_147 rfl (lv_at hl 2 rfl) ?_
        refine lv_iload hx hb dX12_score_148 (lv_at hl 0 rfl) ?_
        refine lv_iconst (v := 1) hx hb dX12_score_150 (by decide) ?_
        refine bi_ne (tgt := 158) hx hb rfl ti_1 dX12_score_151 (by decide) (fun c_19 => ?_) (fun c_19 => ?_)
        · skip
          refine lv_iconst (v := 0) hx hb dX12_score_158 (by decide) ?_
          have hq_20 : 0 ≤ x1.toInt ∧ x1.toInt ≤ 46440 ∧ x1.toInt % 1290 = 0 := by (try simp only [ti_0]); first | assumption | omega | (intros; omega)
          have hq_21 : (f_11 11).toInt ≤ 1990000000 := by (try simp only [ti_0]); first | assumption | omega | (intros; omega)
          refine mcI (zrV (As := [.int x1, .int 0]) (b := a0) (rest := [.int y_9]) C hs hP hS (c_X12_scorePlainly l D K hM f_11 A_11 hT a0 ha0 hk0 x1 0 hq_20 hq_21) m_X12_scorePlainly wm_X12_143 (zrecv hs hP ha0 (zF_11 hk0) rfl) ⟨by decide, by decide⟩ hl.1 (Nat.le_of_ble_eq_true rfl) dX12_score_159) hS (fun x_22 f_22 A_22 H locs p_22 hP hS => ?_)
          obtain ⟨hT, hA_22, hF_22, pp_22⟩ := p_22
          have pp_22 : (f_11 11).toInt ≤ (f_22 11).toInt ∧ (f_22 11).toInt ≤ (f_11 11).toInt + 2 ∧ ((f_11 12).toInt ≠ 0 → (f_22 11).toInt = (f_11 11).toInt) := pp_22
          have ev_23 : f_11 12 = f 12 := by rw [FF_11 12 (by decide)]
          rw [ev_23] at pp_22
          try simp only [ti_0] at pp_22
          have FA := frA FA hA_22 (by decide)
          have FF := frF FF hF_22 (by decide)
          refine lv_iadd hx hb dX12_score_162 ?_
          refine lv_topi (fun x_24 ex_24 => ?_)
          have g_25 := z_rng y_9
          have g_26 := z_rng x_22
          obtain ⟨f_24, l_24, u_24⟩ := z_add ex_24 rfl rfl
          try replace f_24 : x_24.toInt = y_9.toInt + x_22.toInt := by omega
          exact maI hQ hx hb hr hlk hP hS ⟨hT, FA, FF, (by first | omega | (intro h9; omega) | (simp; done) | (refine ⟨?_, ?_⟩ <;> intros <;> omega) | (refine ⟨?_, ?_, ?_⟩ <;> intros <;> omega))⟩ dX12_score_163
        · skip
          refine lv_iconst (v := 1) hx hb dX12_score_154 (by decide) ?_
          refine lv_goto (tgt := 159) hx hb dX12_score_155 (by decide) ?_
          have hq_27 : 0 ≤ x1.toInt ∧ x1.toInt ≤ 46440 ∧ x1.toInt % 1290 = 0 := by (try simp only [ti_1]); first | assumption | omega | (intros; omega)
          have hq_28 : (f_11 11).toInt ≤ 1990000000 := by (try simp only [ti_1]); first | assumption | omega | (intros; omega)
          refine mcI (zrV (As := [.int x1, .int 1]) (b := a0) (rest := [.int y_9]) C hs hP hS (c_X12_scorePlainly l D K hM f_11 A_11 hT a0 ha0 hk0 x1 1 hq_27 hq_28) m_X12_scorePlainly wm_X12_143 (zrecv hs hP ha0 (zF_11 hk0) rfl) ⟨by decide, by decide⟩ hl.1 (Nat.le_of_ble_eq_true rfl) dX12_score_159) hS (fun x_29 f_29 A_29 H locs p_29 hP hS => ?_)
          obtain ⟨hT, hA_29, hF_29, pp_29⟩ := p_29
          have pp_29 : (f_11 11).toInt ≤ (f_29 11).toInt ∧ (f_29 11).toInt ≤ (f_11 11).toInt + 2 ∧ ((f_11 12).toInt ≠ 0 → (f_29 11).toInt = (f_11 11).toInt) := pp_29
          have ev_30 : f_11 12 = f 12 := by rw [FF_11 12 (by decide)]
          rw [ev_30] at pp_29
          try simp only [ti_1] at pp_29
          have FA := frA FA hA_29 (by decide)
          have FF := frF FF hF_29 (by decide)
          refine lv_iadd hx hb dX12_score_162 ?_
          refine lv_topi (fun x_31 ex_31 => ?_)
          have g_32 := z_rng y_9
          have g_33 := z_rng x_29
          obtain ⟨f_31, l_31, u_31⟩ := z_add ex_31 rfl rfl
          try replace f_31 : x_31.toInt = y_9.toInt + x_29.toInt := by omega
          exact maI hQ hx hb hr hlk hP hS ⟨hT, FA, FF, (by first | omega | (intro h9; omega) | (simp; done) | (refine ⟨?_, ?_⟩ <;> intros <;> omega) | (refine ⟨?_, ?_, ?_⟩ <;> intros <;> omega))⟩ dX12_score_163
      · skip
        refine lv_aload_n hx hb dX12_score_99 rfl (lv_at hl 1 rfl) ?_
        refine lv_bipush (v := 44) hx hb dX12_score_100 (by decide) ?_
        have hq_34 : (f_11 11).toInt ≤ 2000000000 := by (try simp only [ti_44]); first | assumption | omega | (intros; omega)
        refine mcV (zrV (As := [.int 44]) (b := a0) (rest := []) C hs hP hS (c_X12_body l D K hM f_11 A_11 hT a0 ha0 hk0 44 hq_34) m_X12_body wm_X12_124 (zrecv hs hP ha0 (zF_11 hk0) rfl) ⟨by decide, by decide⟩ hl.1 (Nat.le_of_ble_eq_true rfl) dX12_score_102) hS (fun f_35 A_35 H locs p_35 hP hS => ?_)
        obtain ⟨hT, hA_35, hF_35, pp_35⟩ := p_35
        have pp_35 : (f_11 11).toInt ≤ (f_35 11).toInt ∧ (f_35 11).toInt ≤ (f_11 11).toInt + 1 ∧ ((f_11 12).toInt ≠ 0 → (f_35 11).toInt = (f_11 11).toInt) := pp_35
        have ev_36 : f_11 12 = f 12 := by rw [FF_11 12 (by decide)]
        rw [ev_36] at pp_35
        try simp only [ti_44] at pp_35
        have FA := frA FA hA_35 (by decide)
        have FF := frF FF hF_35 (by decide)
        refine lv_aload_n hx hb dX12_score_105 rfl (lv_at hl 1 rfl) ?_
        refine lv_iload_n hx hb dX12_score_106 rfl (lv_at hl 2 rfl) ?_
        refine lv_iconst (v := 1) hx hb dX12_score_107 (by decide) ?_
        have hq_37 : 0 ≤ x1.toInt ∧ x1.toInt ≤ 46440 ∧ x1.toInt % 1290 = 0 := by (try simp only [ti_1]); first | assumption | omega | (intros; omega)
        have hq_38 : (f_35 11).toInt ≤ 1990000000 := by (try simp only [ti_1]); first | assumption | omega | (intros; omega)
        refine mcI (zrV (As := [.int x1, .int 1]) (b := a0) (rest := []) C hs hP hS (c_X12_scorePlainly l D K hM f_35 A_35 hT a0 ha0 hk0 x1 1 hq_37 hq_38) m_X12_scorePlainly wm_X12_143 (zrecv hs hP ha0 (zF_11 hk0) rfl) ⟨by decide, by decide⟩ hl.1 (Nat.le_of_ble_eq_true rfl) dX12_score_108) hS (fun x_39 f_39 A_39 H locs p_39 hP hS => ?_)
        obtain ⟨hT, hA_39, hF_39, pp_39⟩ := p_39
        have pp_39 : (f_35 11).toInt ≤ (f_39 11).toInt ∧ (f_39 11).toInt ≤ (f_35 11).toInt + 2 ∧ ((f_35 12).toInt ≠ 0 → (f_39 11).toInt = (f_35 11).toInt) := pp_39
        have ev_40 : f_35 12 = f 12 := by rw [hF_35 12 (by decide), FF_11 12 (by decide)]
        rw [ev_40] at pp_39
        try simp only [ti_1] at pp_39
        have FA := frA FA hA_39 (by decide)
        have FF := frF FF hF_39 (by decide)
        refine lv_istore (lv' := [(5, .int x_39), (4, .int (A 40 (x1.toInt + 4).toNat)), (0, .ref a0), (1, .int x1), (2, .int x2), (3, .int y_9)]) hx hb dX12_score_111 hl (by decide) rfl (fun ls hl => ?_)
        refine lv_iload_n hx hb dX12_score_113 rfl (lv_at hl 5 rfl) ?_
        refine lv_aload_n hx hb dX12_score_114 rfl (lv_at hl 2 rfl) ?_
        refine mg_15 C hs hP ha0 hk0 wf_X12_39 dX12_score_115 ?_
        have hf_41 := hO.r (j := 15) ha0 hk0 (rfl : zX 11 15 = some (55, 4))
        refine lv_iload_n hx hb dX12_score_118 rfl (lv_at hl 4 rfl) ?_
        have g_43 := z_rng x2
        have hin_42 : vp_in x2 (zn K (zr K a0 15)) := vp_in_iff.mpr (by rw [(hf_41.2.2 (by decide))]; refine ⟨?_, ?_⟩ <;> omega)
        refine mld_55 C hs hP hf_41.1 hf_41.2.1 hin_42 dX12_score_119 ?_
        have ev_44 : A_39 55 x2.toNatClampNeg = A 55 x2.toNatClampNeg := by rw [hA_39 55 (by decide), hA_35 55 (by decide), FA_11 55 (by decide)]
        have tv_45 := ra_55 hT (vp_in_iff.mp hin_42).1 (by have h7 := (vp_in_iff.mp hin_42).2; rw [(hf_41.2.2 (by decide))] at h7; exact h7)
        rw [ev_44] at tv_45
        rw [ev_44]
        refine lv_iconst (v := 4) hx hb dX12_score_120 (by decide) ?_
        refine lv_irem hx hb dX12_score_121 (by decide) ?_
        refine lv_topi (fun x_46 ex_46 => ?_)
        refine lv_aload_n hx hb dX12_score_122 rfl (lv_at hl 2 rfl) ?_
        refine mg_0 C hs hP ha0 hk0 wf_X12_8 dX12_score_123 ?_
        refine lv_iload_n hx hb dX12_score_126 rfl (lv_at hl 3 rfl) ?_
        refine lv_bipush (v := 11) hx hb dX12_score_127 (by decide) ?_
        refine lv_iadd hx hb dX12_score_129 ?_
        refine lv_topi (fun x_47 ex_47 => ?_)
        obtain ⟨f_47, l_47, u_47⟩ := z_add ex_47 rfl ti_11
        try replace f_47 : x_47.toInt = x1.toInt + 11 := by omega
        have hin_48 : vp_in x_47 (zn K (zr K a0 0)) := vp_in_iff.mpr (by rw [(hf_1.2.2 (by decide))]; refine ⟨?_, ?_⟩ <;> omega)
        refine mld_40 C hs hP hf_1.1 hf_1.2.1 hin_48 dX12_score_130 ?_
        have ep_49 : x_47.toNatClampNeg = (x1.toInt + 11).toNat := by show x_47.toInt.toNat = _; rw [show x_47.toInt = (x1.toInt + 11) by omega]
        rw [ep_49]
        have ev_50 : A_39 40 (x1.toInt + 11).toNat = A 40 (x1.toInt + 11).toNat := by rw [hA_39 40 (by decide), hA_35 40 (by decide), FA_11 40 (by decide)]
        rw [ev_50]
        refine bi_ne (tgt := 141) hx hb rfl rfl dX12_score_131 (by decide) (fun c_51 => ?_) (fun c_51 => ?_)
        · skip
          refine lv_iload hx hb dX12_score_141 (lv_at hl 0 rfl) ?_
          refine lv_iadd hx hb dX12_score_143 ?_
          refine lv_topi (fun x_52 ex_52 => ?_)
          have g_53 := z_rng y_9
          have g_54 := z_rng x_39
          obtain ⟨f_52, l_52, u_52⟩ := z_add ex_52 rfl rfl
          try replace f_52 : x_52.toInt = y_9.toInt + x_39.toInt := by omega
          have g_55 := z_rng (A 55 x2.toNatClampNeg)
          have f_46 := z_rem ex_46 rfl ti_4 (by decide)
          exact maI hQ hx hb hr hlk hP hS ⟨hT, FA, FF, (by first | omega | (intro h9; omega) | (simp; done) | (refine ⟨?_, ?_⟩ <;> intros <;> omega) | (refine ⟨?_, ?_, ?_⟩ <;> intros <;> omega))⟩ dX12_score_144
        · skip
          refine lv_iconst (v := 2) hx hb dX12_score_134 (by decide) ?_
          refine lv_iload hx hb dX12_score_135 (lv_at hl 0 rfl) ?_
          refine lv_imul hx hb dX12_score_137 ?_
          refine lv_topi (fun x_56 ex_56 => ?_)
          refine lv_goto (tgt := 143) hx hb dX12_score_138 (by decide) ?_
          refine lv_iadd hx hb dX12_score_143 ?_
          refine lv_topi (fun x_57 ex_57 => ?_)
          have g_58 := z_rng y_9
          have g_59 := z_rng x_39
          obtain ⟨f_56, l_56, u_56⟩ := z_mul ex_56 ti_2 rfl
          try replace f_56 : x_56.toInt = 2 * x_39.toInt := by omega
          obtain ⟨f_57, l_57, u_57⟩ := z_add ex_57 rfl rfl
          try replace f_57 : x_57.toInt = y_9.toInt + x_56.toInt := by omega
          have g_60 := z_rng (A 55 x2.toNatClampNeg)
          have f_46 := z_rem ex_46 rfl ti_4 (by decide)
          exact maI hQ hx hb hr hlk hP hS ⟨hT, FA, FF, (by first | omega | (intro h9; omega) | (simp; done) | (refine ⟨?_, ?_⟩ <;> intros <;> omega) | (refine ⟨?_, ?_, ?_⟩ <;> intros <;> omega))⟩ dX12_score_144
    · skip
      refine lv_aload_n hx hb dX12_score_38 rfl (lv_at hl 1 rfl) ?_
      refine lv_bipush (v := 43) hx hb dX12_score_39 (by decide) ?_
      have hq_61 : (f_11 11).toInt ≤ 2000000000 := by (try simp only [ti_43]); first | assumption | omega | (intros; omega)
      refine mcV (zrV (As := [.int 43]) (b := a0) (rest := []) C hs hP hS (c_X12_body l D K hM f_11 A_11 hT a0 ha0 hk0 43 hq_61) m_X12_body wm_X12_124 (zrecv hs hP ha0 (zF_11 hk0) rfl) ⟨by decide, by decide⟩ hl.1 (Nat.le_of_ble_eq_true rfl) dX12_score_41) hS (fun f_62 A_62 H locs p_62 hP hS => ?_)
      obtain ⟨hT, hA_62, hF_62, pp_62⟩ := p_62
      have pp_62 : (f_11 11).toInt ≤ (f_62 11).toInt ∧ (f_62 11).toInt ≤ (f_11 11).toInt + 1 ∧ ((f_11 12).toInt ≠ 0 → (f_62 11).toInt = (f_11 11).toInt) := pp_62
      have ev_63 : f_11 12 = f 12 := by rw [FF_11 12 (by decide)]
      rw [ev_63] at pp_62
      try simp only [ti_43] at pp_62
      have FA := frA FA hA_62 (by decide)
      have FF := frF FF hF_62 (by decide)
      refine lv_iconst (v := 0) hx hb dX12_score_44 (by decide) ?_
      refine lv_istore (lv' := [(5, .int 0), (4, .int (A 40 (x1.toInt + 4).toNat)), (0, .ref a0), (1, .int x1), (2, .int x2), (3, .int y_9)]) hx hb dX12_score_45 hl (by decide) rfl (fun ls hl => ?_)
      refine lv_iconst (v := 0) hx hb dX12_score_47 (by decide) ?_
      refine lv_istore (lv' := [(6, .int 0), (5, .int 0), (4, .int (A 40 (x1.toInt + 4).toNat)), (0, .ref a0), (1, .int x1), (2, .int x2), (3, .int y_9)]) hx hb dX12_score_48 hl (by decide) rfl (fun ls hl => ?_)
      have L_50_66 : ∀ (n_66 : Nat) (y_64 : Int32) (y_65 : Int32) (ls : Array Slot), (2147483648 - y_64.toInt).toNat < n_66 → 0 ≤ y_64.toInt → lv_has ls 7 [(6, .int y_64), (5, .int y_65), (4, .int (A 40 (x1.toInt + 4).toNat)), (0, .ref a0), (1, .int x1), (2, .int x2), (3, .int y_9)] → W p l e (rmd 2) s m args below meth c H locs 0 0 Q (F0 m 50 ls []) := by
        intro n_66
        induction n_66 with
        | zero => intro y_64 y_65 ls hm_66; exact absurd hm_66 (Nat.not_lt_zero _)
        | succ n_66 ih_66 =>
          intro y_64 y_65 ls hm_66 iv_67_0 hl
          refine lv_iload hx hb dX12_score_50 (lv_at hl 0 rfl) ?_
          refine lv_aload_n hx hb dX12_score_52 rfl (lv_at hl 3 rfl) ?_
          refine mg_16 C hs hP ha0 hk0 wf_X12_127 dX12_score_53 ?_
          have ev_68 : f_62 16 = f 16 := by rw [hF_62 16 (by decide), FF_11 16 (by decide)]
          rw [ev_68]
          have tf_69 : 0 ≤ (f 16).toInt ∧ (f 16).toInt ≤ 4 := by rw [← ev_68]; exact hT.1 16
          refine bi_ge (tgt := 88) hx hb rfl rfl dX12_score_56 (by decide) (fun c_70 => ?_) (fun c_70 => ?_)
          · skip
            refine lv_iload_n hx hb dX12_score_88 rfl (lv_at hl 6 rfl) ?_
            refine lv_iload hx hb dX12_score_89 (lv_at hl 1 rfl) ?_
            refine lv_isub hx hb dX12_score_91 ?_
            refine lv_topi (fun x_71 ex_71 => ?_)
            have g_72 := z_rng y_9
            have g_73 := z_rng y_65
            obtain ⟨f_71, l_71, u_71⟩ := z_sub ex_71 rfl rfl
            try replace f_71 : x_71.toInt = y_9.toInt - y_65.toInt := by omega
            exact maI hQ hx hb hr hlk hP hS ⟨hT, FA, FF, (by first | omega | (intro h9; omega) | (simp; done) | (refine ⟨?_, ?_⟩ <;> intros <;> omega) | (refine ⟨?_, ?_, ?_⟩ <;> intros <;> omega))⟩ dX12_score_92
          · skip
            refine lv_iload hx hb dX12_score_59 (lv_at hl 1 rfl) ?_
            refine lv_aload_n hx hb dX12_score_61 rfl (lv_at hl 3 rfl) ?_
            refine mg_15 C hs hP ha0 hk0 wf_X12_39 dX12_score_62 ?_
            have hf_74 := hO.r (j := 15) ha0 hk0 (rfl : zX 11 15 = some (55, 4))
            refine lv_iload hx hb dX12_score_65 (lv_at hl 0 rfl) ?_
            have g_76 := z_rng y_64
            have hin_75 : vp_in y_64 (zn K (zr K a0 15)) := vp_in_iff.mpr (by rw [(hf_74.2.2 (by decide))]; refine ⟨?_, ?_⟩ <;> omega)
            refine mld_55 C hs hP hf_74.1 hf_74.2.1 hin_75 dX12_score_67 ?_
            have ev_77 : A_62 55 y_64.toNatClampNeg = A 55 y_64.toNatClampNeg := by rw [hA_62 55 (by decide), FA_11 55 (by decide)]
            have tv_78 := ra_55 hT (vp_in_iff.mp hin_75).1 (by have h7 := (vp_in_iff.mp hin_75).2; rw [(hf_74.2.2 (by decide))] at h7; exact h7)
            rw [ev_77] at tv_78
            rw [ev_77]
            refine lv_iconst (v := 4) hx hb dX12_score_68 (by decide) ?_
            refine lv_irem hx hb dX12_score_69 (by decide) ?_
            refine lv_topi (fun x_79 ex_79 => ?_)
            refine lv_iconst (v := 3) hx hb dX12_score_70 (by decide) ?_
            have J_79_82 : ∀ (y_81 : Int32) (ls : Array Slot), (y_81 = 0 ∨ y_81 = 1) → lv_has ls 7 [(0, .ref a0), (1, .int x1), (2, .int x2), (3, .int y_9), (4, .int (A 40 (x1.toInt + 4).toNat)), (5, .int y_65), (6, .int y_64)] → W p l e (rmd 2) s m args below meth c H locs 0 0 Q (F0 m 79 ls [.int y_81, .int y_65]) := by
              intro y_81 ls hb_y_81 hl
              refine lv_iadd hx hb dX12_score_79 ?_
              refine lv_topi (fun x_84 ex_84 => ?_)
              refine lv_istore (lv' := [(5, .int x_84), (0, .ref a0), (1, .int x1), (2, .int x2), (3, .int y_9), (4, .int (A 40 (x1.toInt + 4).toNat)), (6, .int y_64)]) hx hb dX12_score_80 hl (by decide) rfl (fun ls hl => ?_)
              obtain ⟨x_85, ex_85⟩ : ∃ y : Int32, y = y_64 + 1 := ⟨_, rfl⟩
              refine lv_iinc (v := x_85) (lv' := [(6, .int x_85), (5, .int x_84), (0, .ref a0), (1, .int x1), (2, .int x2), (3, .int y_9), (4, .int (A 40 (x1.toInt + 4).toNat))]) hx hb dX12_score_82 hl (k := 6) rfl (by rw [ex_85]; rfl) (by decide) rfl (fun ls hl => ?_)
              refine lv_goto (tgt := 50) hx hb dX12_score_85 (by decide) ?_
              obtain ⟨f_85, l_85, u_85⟩ := z_add ex_85 rfl ti_1
              try replace f_85 : x_85.toInt = y_64.toInt + 1 := by omega
              have g_86 := z_rng y_65
              have g_87 := z_rng y_81
              obtain ⟨f_84, l_84, u_84⟩ := z_add ex_84 rfl rfl
              try replace f_84 : x_84.toInt = y_65.toInt + y_81.toInt := by omega
              have g_88 := z_rng (f 16)
              exact ih_66 x_85 x_84 _ (by omega) (by omega) (lv_sub hl [0, 1, 6, 2, 3, 4, 5] rfl)
            refine bi_ne (tgt := 78) hx hb rfl ti_3 dX12_score_71 (by decide) (fun c_80 => ?_) (fun c_80 => ?_)
            · skip
              refine lv_iconst (v := 0) hx hb dX12_score_78 (by decide) ?_
              exact J_79_82 0 _ (Or.inl rfl) (lv_sub hl [3, 4, 5, 6, 2, 1, 0] rfl)
            · skip
              refine lv_iconst (v := 1) hx hb dX12_score_74 (by decide) ?_
              refine lv_goto (tgt := 79) hx hb dX12_score_75 (by decide) ?_
              exact J_79_82 1 _ (Or.inr rfl) (lv_sub hl [3, 4, 5, 6, 2, 1, 0] rfl)
      have g_89 := z_rng (A 40 (x1.toInt + 4).toNat)
      exact L_50_66 _ 0 0 _ (Nat.lt_succ_self _) (by (try simp only [ti_0]); omega) (lv_sub hl [0, 1, 2, 3, 4, 5, 6] rfl)
  refine bi_ne (tgt := 22) hx hb rfl ti_4 dX12_score_11 (by decide) (fun c_6 => ?_) (fun c_6 => ?_)
  · skip
    exact J_22_10 f A _ _ 0 _ (Or.inl rfl) (by omega) FA FF hT hP hS (lv_sub hl [1, 2, 3, 0] rfl)
  · skip
    refine lv_aload_n hx hb dX12_score_14 rfl (lv_at hl 1 rfl) ?_
    refine lv_bipush (v := 45) hx hb dX12_score_15 (by decide) ?_
    have hq_90 : (f 11).toInt ≤ 2000000000 := by (try simp only [ti_45]); first | assumption | omega | (intros; omega)
    refine mcV (zrV (As := [.int 45]) (b := a0) (rest := []) C hs hP hS (c_X12_body l D K hM f A hT a0 ha0 hk0 45 hq_90) m_X12_body wm_X12_124 (zrecv hs hP ha0 (zF_11 hk0) rfl) ⟨by decide, by decide⟩ hl.1 (Nat.le_of_ble_eq_true rfl) dX12_score_17) hS (fun f_91 A_91 H locs p_91 hP hS => ?_)
    obtain ⟨hT, hA_91, hF_91, pp_91⟩ := p_91
    have pp_91 : (f 11).toInt ≤ (f_91 11).toInt ∧ (f_91 11).toInt ≤ (f 11).toInt + 1 ∧ ((f 12).toInt ≠ 0 → (f_91 11).toInt = (f 11).toInt) := pp_91
    try simp only [ti_45] at pp_91
    have FA := frA FA hA_91 (by decide)
    have FF := frF FF hF_91 (by decide)
    refine lv_iconst (v := 1) hx hb dX12_score_20 (by decide) ?_
    refine lv_istore_n (lv' := [(3, .int 1), (0, .ref a0), (1, .int x1), (2, .int x2)]) hx hb dX12_score_21 rfl hl (by decide) rfl (fun ls hl => ?_)
    exact J_22_10 f_91 A_91 _ _ 1 _ (Or.inr rfl) (by omega) FA FF hT hP hS (lv_sub hl [1, 2, 3, 0] rfl)
set_option maxHeartbeats 4000000 in
set_option maxRecDepth 100000 in
theorem c_X12_settle (l : Launch) (D : va_G) (K : zK) (hM : mK K) (f : Nat → Int32) (A : Nat → Nat → Int32) (hT : mT f A) (a0 : Nat) (ha0 : a0 ∈ zl K) (hk0 : zk K a0 = 11) (x1 : Int32) (x2 : Int32) (hp0 : 0 ≤ x1.toInt ∧ x1.toInt ≤ 46440 ∧ x1.toInt % 1290 = 0) (hp1 : 0 ≤ x2.toInt ∧ x2.toInt ≤ 1) (hp2 : (f 11).toInt ≤ 1980000000) : Met l yX12_settle (zc yX12_settle cX12_settle 6 (some .int)) (rmd 1) (va_Pc [.ref a0, .int x1, .int x2] (zB D K (mV K f A))) (mQi D K (fun r f' A' => mT f' A' ∧ (∀ k, k ∉ ([50] : List Nat) → A' k = A k) ∧ (∀ k, k ∉ ([11] : List Nat) → f' k = f k) ∧ (f 11).toInt ≤ (f' 11).toInt ∧ (f' 11).toInt ≤ (f 11).toInt + 3 ∧ ((f 12).toInt ≠ 0 → (f' 11).toInt = (f 11).toInt))) 0 0 (zA K) := by
  refine zin (by decide) (Nat.le_of_ble_eq_true rfl) ?_
  intro p e s m args below meth c ls Q hQ C hr hlk hP hs hl
  have C : CallFix p m c cX12_settle 6 s args zw RX12 := C
  obtain ⟨hx, hb, hml, hown, hts⟩ := id C
  have hO := hM.1
  have hS : va_S (zA K) s.heap s.heap [] := va_S.rf
  have FA : ∀ k, k ∉ ([50] : List Nat) → A k = A k := fun _ _ => rfl
  have FF : ∀ k, k ∉ ([11] : List Nat) → f k = f k := fun _ _ => rfl
  have hl : lv_has ls 6 [(0, .ref a0), (1, .int x1), (2, .int x2)] := hl
  refine lv_aload_n hx hb dX12_settle_0 rfl (lv_at hl 0 rfl) ?_
  refine mg_0 C hs hP ha0 hk0 wf_X12_8 dX12_settle_1 ?_
  have hf_1 := hO.r (j := 0) ha0 hk0 (rfl : zX 11 0 = some (40, 47730))
  refine lv_iload_n hx hb dX12_settle_4 rfl (lv_at hl 1 rfl) ?_
  refine lv_iconst (v := 2) hx hb dX12_settle_5 (by decide) ?_
  refine lv_iadd hx hb dX12_settle_6 ?_
  refine lv_topi (fun x_2 ex_2 => ?_)
  have g_4 := z_rng x1
  obtain ⟨f_2, l_2, u_2⟩ := z_add ex_2 rfl ti_2
  try replace f_2 : x_2.toInt = x1.toInt + 2 := by omega
  have hin_3 : vp_in x_2 (zn K (zr K a0 0)) := vp_in_iff.mpr (by rw [(hf_1.2.2 (by decide))]; refine ⟨?_, ?_⟩ <;> omega)
  refine mld_40 C hs hP hf_1.1 hf_1.2.1 hin_3 dX12_settle_7 ?_
  have ep_5 : x_2.toNatClampNeg = (x1.toInt + 2).toNat := by show x_2.toInt.toNat = _; rw [show x_2.toInt = (x1.toInt + 2) by omega]
  rw [ep_5]
  refine lv_iconst (v := 4) hx hb dX12_settle_8 (by decide) ?_
  have J_18_9 : ∀ (f_10 : Nat → Int32) (A_10 : Nat → Nat → Int32) (H : Heap) (locs : List Loc) (ls : Array Slot), ((f 11).toInt ≤ (f_10 11).toInt ∧ (f_10 11).toInt ≤ (f 11).toInt + 1 ∧ ((f 12).toInt ≠ 0 → (f_10 11).toInt = (f 11).toInt)) → (∀ k, k ∉ ([50] : List Nat) → A_10 k = A k) → (∀ k, k ∉ ([11] : List Nat) → f_10 k = f k) → mT f_10 A_10 → va_P D vwCl (zW K (mV K f_10 A_10)) H → va_S (zA K) s.heap H locs → lv_has ls 6 [(0, .ref a0), (1, .int x1), (2, .int x2)] → W p l e (rmd 1) s m args below meth c H locs 0 0 Q (F0 m 18 ls []) := by
    intro f_10 A_10 H locs ls iv_10_0 FA_10 FF_10 hT hP hS hl
    have FA := FA_10
    have FF := FF_10
    refine lv_aload_n hx hb dX12_settle_18 rfl (lv_at hl 0 rfl) ?_
    refine mg_0 C hs hP ha0 hk0 wf_X12_8 dX12_settle_19 ?_
    refine lv_iload_n hx hb dX12_settle_22 rfl (lv_at hl 1 rfl) ?_
    refine lv_bipush (v := 17) hx hb dX12_settle_23 (by decide) ?_
    refine lv_iadd hx hb dX12_settle_25 ?_
    refine lv_topi (fun x_12 ex_12 => ?_)
    refine lv_iload_n hx hb dX12_settle_26 rfl (lv_at hl 2 rfl) ?_
    refine lv_iadd hx hb dX12_settle_27 ?_
    refine lv_topi (fun x_13 ex_13 => ?_)
    obtain ⟨f_12, l_12, u_12⟩ := z_add ex_12 rfl ti_17
    try replace f_12 : x_12.toInt = x1.toInt + 17 := by omega
    have g_15 := z_rng x2
    obtain ⟨f_13, l_13, u_13⟩ := z_add ex_13 rfl rfl
    try replace f_13 : x_13.toInt = x_12.toInt + x2.toInt := by omega
    have hin_14 : vp_in x_13 (zn K (zr K a0 0)) := vp_in_iff.mpr (by rw [(hf_1.2.2 (by decide))]; refine ⟨?_, ?_⟩ <;> omega)
    refine mld_40 C hs hP hf_1.1 hf_1.2.1 hin_14 dX12_settle_28 ?_
    have ep_16 : x_13.toNatClampNeg = (x1.toInt + x2.toInt + 17).toNat := by show x_13.toInt.toNat = _; rw [show x_13.toInt = (x1.toInt + x2.toInt + 17) by omega]
    rw [ep_16]
    have ev_17 : A_10 40 (x1.toInt + x2.toInt + 17).toNat = A 40 (x1.toInt + x2.toInt + 17).toNat := by rw [FA_10 40 (by decide)]
    rw [ev_17]
    refine lv_istore_n (lv' := [(3, .int (A 40 (x1.toInt + x2.toInt + 17).toNat)), (0, .ref a0), (1, .int x1), (2, .int x2)]) hx hb dX12_settle_29 rfl hl (by decide) rfl (fun ls hl => ?_)
    refine lv_aload_n hx hb dX12_settle_30 rfl (lv_at hl 1 rfl) ?_
    refine mg_0 C hs hP ha0 hk0 wf_X12_8 dX12_settle_31 ?_
    refine lv_iload_n hx hb dX12_settle_34 rfl (lv_at hl 2 rfl) ?_
    refine lv_iconst (v := 4) hx hb dX12_settle_35 (by decide) ?_
    refine lv_iadd hx hb dX12_settle_36 ?_
    refine lv_topi (fun x_18 ex_18 => ?_)
    obtain ⟨f_18, l_18, u_18⟩ := z_add ex_18 rfl ti_4
    try replace f_18 : x_18.toInt = x1.toInt + 4 := by omega
    have hin_19 : vp_in x_18 (zn K (zr K a0 0)) := vp_in_iff.mpr (by rw [(hf_1.2.2 (by decide))]; refine ⟨?_, ?_⟩ <;> omega)
    refine mld_40 C hs hP hf_1.1 hf_1.2.1 hin_19 dX12_settle_37 ?_
    have ep_20 : x_18.toNatClampNeg = (x1.toInt + 4).toNat := by show x_18.toInt.toNat = _; rw [show x_18.toInt = (x1.toInt + 4) by omega]
    rw [ep_20]
    have ev_21 : A_10 40 (x1.toInt + 4).toNat = A 40 (x1.toInt + 4).toNat := by rw [FA_10 40 (by decide)]
    rw [ev_21]
    refine lv_iconst (v := 3) hx hb dX12_settle_38 (by decide) ?_
    have J_118_55 : ∀ (f_56 : Nat → Int32) (A_56 : Nat → Nat → Int32) (H : Heap) (locs : List Loc) (y_54 : Int32) (ls : Array Slot), ((f 11).toInt ≤ (f_56 11).toInt ∧ (f_56 11).toInt ≤ (f 11).toInt + 2 ∧ ((f 12).toInt ≠ 0 → (f_56 11).toInt = (f 11).toInt)) → (∀ k, k ∉ ([50] : List Nat) → A_56 k = A k) → (∀ k, k ∉ ([11] : List Nat) → f_56 k = f k) → mT f_56 A_56 → va_P D vwCl (zW K (mV K f_56 A_56)) H → va_S (zA K) s.heap H locs → lv_has ls 6 [(0, .ref a0), (1, .int x1), (2, .int x2), (3, .int y_54)] → W p l e (rmd 1) s m args below meth c H locs 0 0 Q (F0 m 118 ls []) := by
      intro f_56 A_56 H locs y_54 ls iv_56_0 FA_56 FF_56 hT hP hS hl
      have FA := FA_56
      have FF := FF_56
      refine lv_aload_n hx hb dX12_settle_118 rfl (lv_at hl 0 rfl) ?_
      refine lv_bipush (v := 51) hx hb dX12_settle_119 (by decide) ?_
      have hq_58 : (f_56 11).toInt ≤ 2000000000 := by (try simp only [ti_51]); first | assumption | omega | (intros; omega)
      refine mcV (zrV (As := [.int 51]) (b := a0) (rest := []) C hs hP hS (c_X12_body l D K hM f_56 A_56 hT a0 ha0 hk0 51 hq_58) m_X12_body wm_X12_124 (zrecv hs hP ha0 (zF_11 hk0) rfl) ⟨by decide, by decide⟩ hl.1 (Nat.le_of_ble_eq_true rfl) dX12_settle_121) hS (fun f_59 A_59 H locs p_59 hP hS => ?_)
      obtain ⟨hT, hA_59, hF_59, pp_59⟩ := p_59
      have pp_59 : (f_56 11).toInt ≤ (f_59 11).toInt ∧ (f_59 11).toInt ≤ (f_56 11).toInt + 1 ∧ ((f_56 12).toInt ≠ 0 → (f_59 11).toInt = (f_56 11).toInt) := pp_59
      have ev_60 : f_56 12 = f 12 := by rw [FF_56 12 (by decide)]
      rw [ev_60] at pp_59
      try simp only [ti_51] at pp_59
      have FA := frA FA hA_59 (by decide)
      have FF := frF FF hF_59 (by decide)
      refine lv_iload_n hx hb dX12_settle_124 rfl (lv_at hl 3 rfl) ?_
      refine lv_aload_n hx hb dX12_settle_125 rfl (lv_at hl 0 rfl) ?_
      refine mg_0 C hs hP ha0 hk0 wf_X12_8 dX12_settle_126 ?_
      refine lv_iload_n hx hb dX12_settle_129 rfl (lv_at hl 1 rfl) ?_
      refine lv_bipush (v := 13) hx hb dX12_settle_130 (by decide) ?_
      refine lv_iadd hx hb dX12_settle_132 ?_
      refine lv_topi (fun x_61 ex_61 => ?_)
      obtain ⟨f_61, l_61, u_61⟩ := z_add ex_61 rfl ti_13
      try replace f_61 : x_61.toInt = x1.toInt + 13 := by omega
      have hin_62 : vp_in x_61 (zn K (zr K a0 0)) := vp_in_iff.mpr (by rw [(hf_1.2.2 (by decide))]; refine ⟨?_, ?_⟩ <;> omega)
      refine mld_40 C hs hP hf_1.1 hf_1.2.1 hin_62 dX12_settle_133 ?_
      have ep_63 : x_61.toNatClampNeg = (x1.toInt + 13).toNat := by show x_61.toInt.toNat = _; rw [show x_61.toInt = (x1.toInt + 13) by omega]
      rw [ep_63]
      have ev_64 : A_59 40 (x1.toInt + 13).toNat = A 40 (x1.toInt + 13).toNat := by rw [hA_59 40 (by decide), FA_56 40 (by decide)]
      rw [ev_64]
      refine lv_ishl hx hb dX12_settle_134 ?_
      refine lv_topi (fun x_65 ex_65 => ?_)
      exact maI hQ hx hb hr hlk hP hS ⟨hT, FA, FF, (by first | omega | (intro h9; omega) | (simp; done) | (refine ⟨?_, ?_⟩ <;> intros <;> omega) | (refine ⟨?_, ?_, ?_⟩ <;> intros <;> omega))⟩ dX12_settle_135
    refine bi_ne (tgt := 118) hx hb rfl ti_3 dX12_settle_39 (by decide) (fun c_22 => ?_) (fun c_22 => ?_)
    · skip
      exact J_118_55 f_10 A_10 _ _ (A 40 (x1.toInt + x2.toInt + 17).toNat) _ (by omega) FA FF hT hP hS (lv_sub hl [1, 2, 3, 0] rfl)
    · skip
      refine lv_aload_n hx hb dX12_settle_42 rfl (lv_at hl 1 rfl) ?_
      refine lv_bipush (v := 52) hx hb dX12_settle_43 (by decide) ?_
      have hq_66 : (f_10 11).toInt ≤ 2000000000 := by (try simp only [ti_52]); first | assumption | omega | (intros; omega)
      refine mcV (zrV (As := [.int 52]) (b := a0) (rest := []) C hs hP hS (c_X12_body l D K hM f_10 A_10 hT a0 ha0 hk0 52 hq_66) m_X12_body wm_X12_124 (zrecv hs hP ha0 (zF_11 hk0) rfl) ⟨by decide, by decide⟩ hl.1 (Nat.le_of_ble_eq_true rfl) dX12_settle_45) hS (fun f_67 A_67 H locs p_67 hP hS => ?_)
      obtain ⟨hT, hA_67, hF_67, pp_67⟩ := p_67
      have pp_67 : (f_10 11).toInt ≤ (f_67 11).toInt ∧ (f_67 11).toInt ≤ (f_10 11).toInt + 1 ∧ ((f_10 12).toInt ≠ 0 → (f_67 11).toInt = (f_10 11).toInt) := pp_67
      have ev_68 : f_10 12 = f 12 := by rw [FF_10 12 (by decide)]
      rw [ev_68] at pp_67
      try simp only [ti_52] at pp_67
      have FA := frA FA hA_67 (by decide)
      have FF := frF FF hF_67 (by decide)
      refine lv_aload_n hx hb dX12_settle_48 rfl (lv_at hl 1 rfl) ?_
      refine mg_0 C hs hP ha0 hk0 wf_X12_8 dX12_settle_49 ?_
      refine lv_iload_n hx hb dX12_settle_52 rfl (lv_at hl 2 rfl) ?_
      refine lv_bipush (v := 10) hx hb dX12_settle_53 (by decide) ?_
      refine lv_iadd hx hb dX12_settle_55 ?_
      refine lv_topi (fun x_69 ex_69 => ?_)
      obtain ⟨f_69, l_69, u_69⟩ := z_add ex_69 rfl ti_10
      try replace f_69 : x_69.toInt = x1.toInt + 10 := by omega
      have hin_70 : vp_in x_69 (zn K (zr K a0 0)) := vp_in_iff.mpr (by rw [(hf_1.2.2 (by decide))]; refine ⟨?_, ?_⟩ <;> omega)
      refine mld_40 C hs hP hf_1.1 hf_1.2.1 hin_70 dX12_settle_56 ?_
      have ep_71 : x_69.toNatClampNeg = (x1.toInt + 10).toNat := by show x_69.toInt.toNat = _; rw [show x_69.toInt = (x1.toInt + 10) by omega]
      rw [ep_71]
      have ev_72 : A_67 40 (x1.toInt + 10).toNat = A 40 (x1.toInt + 10).toNat := by rw [hA_67 40 (by decide), FA_10 40 (by decide)]
      rw [ev_72]
      refine lv_istore (lv' := [(4, .int (A 40 (x1.toInt + 10).toNat)), (3, .int (A 40 (x1.toInt + x2.toInt + 17).toNat)), (0, .ref a0), (1, .int x1), (2, .int x2)]) hx hb dX12_settle_57 hl (by decide) rfl (fun ls hl => ?_)
      refine lv_aload_n hx hb dX12_settle_59 rfl (lv_at hl 2 rfl) ?_
      refine mg_0 C hs hP ha0 hk0 wf_X12_8 dX12_settle_60 ?_
      refine lv_iload_n hx hb dX12_settle_63 rfl (lv_at hl 3 rfl) ?_
      refine lv_bipush (v := 15) hx hb dX12_settle_64 (by decide) ?_
      refine lv_iadd hx hb dX12_settle_66 ?_
      refine lv_topi (fun x_73 ex_73 => ?_)
      refine lv_iload_n hx hb dX12_settle_67 rfl (lv_at hl 4 rfl) ?_
      refine lv_iadd hx hb dX12_settle_68 ?_
      refine lv_topi (fun x_74 ex_74 => ?_)
      obtain ⟨f_73, l_73, u_73⟩ := z_add ex_73 rfl ti_15
      try replace f_73 : x_73.toInt = x1.toInt + 15 := by omega
      obtain ⟨f_74, l_74, u_74⟩ := z_add ex_74 rfl rfl
      try replace f_74 : x_74.toInt = x_73.toInt + x2.toInt := by omega
      have hin_75 : vp_in x_74 (zn K (zr K a0 0)) := vp_in_iff.mpr (by rw [(hf_1.2.2 (by decide))]; refine ⟨?_, ?_⟩ <;> omega)
      refine mld_40 C hs hP hf_1.1 hf_1.2.1 hin_75 dX12_settle_69 ?_
      have ep_76 : x_74.toNatClampNeg = (x1.toInt + x2.toInt + 15).toNat := by show x_74.toInt.toNat = _; rw [show x_74.toInt = (x1.toInt + x2.toInt + 15) by omega]
      rw [ep_76]
      have ev_77 : A_67 40 (x1.toInt + x2.toInt + 15).toNat = A 40 (x1.toInt + x2.toInt + 15).toNat := by rw [hA_67 40 (by decide), FA_10 40 (by decide)]
      rw [ev_77]
      refine lv_istore (lv' := [(5, .int (A 40 (x1.toInt + x2.toInt + 15).toNat)), (4, .int (A 40 (x1.toInt + 10).toNat)), (3, .int (A 40 (x1.toInt + x2.toInt + 17).toNat)), (0, .ref a0), (1, .int x1), (2, .int x2)]) hx hb dX12_settle_70 hl (by decide) rfl (fun ls hl => ?_)
      refine lv_iload hx hb dX12_settle_72 (lv_at hl 1 rfl) ?_
      refine bz_le (tgt := 118) hx hb rfl dX12_settle_74 (by decide) (fun c_78 => ?_) (fun c_78 => ?_)
      · skip
        exact J_118_55 f_67 A_67 _ _ (A 40 (x1.toInt + x2.toInt + 17).toNat) _ (by omega) FA FF hT hP hS (lv_sub hl [3, 4, 5, 2] rfl)
      · skip
        refine lv_aload_n hx hb dX12_settle_77 rfl (lv_at hl 3 rfl) ?_
        refine mg_0 C hs hP ha0 hk0 wf_X12_8 dX12_settle_78 ?_
        refine lv_iload_n hx hb dX12_settle_81 rfl (lv_at hl 4 rfl) ?_
        refine lv_bipush (v := 12) hx hb dX12_settle_82 (by decide) ?_
        refine lv_iadd hx hb dX12_settle_84 ?_
        refine lv_topi (fun x_79 ex_79 => ?_)
        obtain ⟨f_79, l_79, u_79⟩ := z_add ex_79 rfl ti_12
        try replace f_79 : x_79.toInt = x1.toInt + 12 := by omega
        have hin_80 : vp_in x_79 (zn K (zr K a0 0)) := vp_in_iff.mpr (by rw [(hf_1.2.2 (by decide))]; refine ⟨?_, ?_⟩ <;> omega)
        refine mld_40 C hs hP hf_1.1 hf_1.2.1 hin_80 dX12_settle_85 ?_
        have ep_81 : x_79.toNatClampNeg = (x1.toInt + 12).toNat := by show x_79.toInt.toNat = _; rw [show x_79.toInt = (x1.toInt + 12) by omega]
        rw [ep_81]
        have ev_82 : A_67 40 (x1.toInt + 12).toNat = A 40 (x1.toInt + 12).toNat := by rw [hA_67 40 (by decide), FA_10 40 (by decide)]
        rw [ev_82]
        refine lv_iconst (v := 2) hx hb dX12_settle_86 (by decide) ?_
        refine lv_irem hx hb dX12_settle_87 (by decide) ?_
        refine lv_topi (fun x_83 ex_83 => ?_)
        refine lv_iload_n hx hb dX12_settle_88 rfl (lv_at hl 5 rfl) ?_
        refine bi_ne (tgt := 118) hx hb rfl rfl dX12_settle_89 (by decide) (fun c_84 => ?_) (fun c_84 => ?_)
        · skip
          exact J_118_55 f_67 A_67 _ _ (A 40 (x1.toInt + x2.toInt + 17).toNat) _ (by omega) FA FF hT hP hS (lv_sub hl [3, 4, 5, 2] rfl)
        · skip
          refine lv_iload hx hb dX12_settle_92 (lv_at hl 0 rfl) ?_
          refine lv_iload hx hb dX12_settle_94 (lv_at hl 1 rfl) ?_
          have J_117_91 : ∀ (y_90 : Int32) (ls : Array Slot), lv_has ls 6 [(0, .ref a0), (1, .int x1), (2, .int x2), (3, .int (A 40 (x1.toInt + x2.toInt + 17).toNat)), (4, .int (A 40 (x1.toInt + 10).toNat)), (5, .int (A 40 (x1.toInt + x2.toInt + 15).toNat))] → W p l e (rmd 1) s m args below meth c H locs 0 0 Q (F0 m 117 ls [.int y_90]) := by
            intro y_90 ls hl
            refine lv_istore_n (lv' := [(3, .int y_90), (0, .ref a0), (1, .int x1), (2, .int x2), (4, .int (A 40 (x1.toInt + 10).toNat)), (5, .int (A 40 (x1.toInt + x2.toInt + 15).toNat))]) hx hb dX12_settle_117 rfl hl (by decide) rfl (fun ls hl => ?_)
            exact J_118_55 f_67 A_67 _ _ y_90 _ (by omega) FA FF hT hP hS (lv_sub hl [1, 2, 3, 0] rfl)
          refine bi_lt (tgt := 109) hx hb rfl rfl dX12_settle_96 (by decide) (fun c_85 => ?_) (fun c_85 => ?_)
          · skip
            refine lv_bipush (v := 10) hx hb dX12_settle_109 (by decide) ?_
            refine lv_iload hx hb dX12_settle_111 (lv_at hl 0 rfl) ?_
            refine lv_iload hx hb dX12_settle_113 (lv_at hl 1 rfl) ?_
            refine lv_isub hx hb dX12_settle_115 ?_
            refine lv_topi (fun x_93 ex_93 => ?_)
            refine lv_imul hx hb dX12_settle_116 ?_
            refine lv_topi (fun x_94 ex_94 => ?_)
            exact J_117_91 x_94 _ (lv_sub hl [3, 4, 5, 2, 1, 0] rfl)
          · skip
            refine lv_iload_n hx hb dX12_settle_99 rfl (lv_at hl 2 rfl) ?_
            refine lv_bipush (v := 10) hx hb dX12_settle_100 (by decide) ?_
            refine lv_iload hx hb dX12_settle_102 (lv_at hl 1 rfl) ?_
            refine lv_imul hx hb dX12_settle_104 ?_
            refine lv_topi (fun x_95 ex_95 => ?_)
            refine lv_iadd hx hb dX12_settle_105 ?_
            refine lv_topi (fun x_96 ex_96 => ?_)
            refine lv_goto (tgt := 117) hx hb dX12_settle_106 (by decide) ?_
            exact J_117_91 x_96 _ (lv_sub hl [3, 4, 5, 2, 1, 0] rfl)
  refine bi_ne (tgt := 18) hx hb rfl ti_4 dX12_settle_9 (by decide) (fun c_6 => ?_) (fun c_6 => ?_)
  · skip
    exact J_18_9 f A _ _ _ (by omega) FA FF hT hP hS (lv_sub hl [0, 1, 2] rfl)
  · skip
    refine lv_aload_n hx hb dX12_settle_12 rfl (lv_at hl 0 rfl) ?_
    refine lv_bipush (v := 53) hx hb dX12_settle_13 (by decide) ?_
    have hq_97 : (f 11).toInt ≤ 2000000000 := by (try simp only [ti_53]); first | assumption | omega | (intros; omega)
    refine mcV (zrV (As := [.int 53]) (b := a0) (rest := []) C hs hP hS (c_X12_body l D K hM f A hT a0 ha0 hk0 53 hq_97) m_X12_body wm_X12_124 (zrecv hs hP ha0 (zF_11 hk0) rfl) ⟨by decide, by decide⟩ hl.1 (Nat.le_of_ble_eq_true rfl) dX12_settle_15) hS (fun f_98 A_98 H locs p_98 hP hS => ?_)
    obtain ⟨hT, hA_98, hF_98, pp_98⟩ := p_98
    have pp_98 : (f 11).toInt ≤ (f_98 11).toInt ∧ (f_98 11).toInt ≤ (f 11).toInt + 1 ∧ ((f 12).toInt ≠ 0 → (f_98 11).toInt = (f 11).toInt) := pp_98
    try simp only [ti_53] at pp_98
    have FA := frA FA hA_98 (by decide)
    have FF := frF FF hF_98 (by decide)
    exact J_18_9 f_98 A_98 _ _ _ (by omega) FA FF hT hP hS (lv_sub hl [0, 1, 2] rfl)
set_option maxHeartbeats 4000000 in
set_option maxRecDepth 100000 in
theorem c_X12_sizeOf (l : Launch) (D : va_G) (K : zK) (hM : mK K) (f : Nat → Int32) (A : Nat → Nat → Int32) (hT : mT f A) (a0 : Nat) (ha0 : a0 ∈ zl K) (hk0 : zk K a0 = 11) (x1 : Int32) (hp0 : 0 ≤ x1.toInt ∧ x1.toInt ≤ 46440 ∧ x1.toInt % 1290 = 0) : Met l yX12_sizeOf (zc yX12_sizeOf cX12_sizeOf 3 (some .int)) (rmd 0) (va_Pc [.ref a0, .int x1] (zB D K (mV K f A))) (vp_Si (fun r => 0 ≤ r.toInt ∧ r.toInt ≤ 15)) 0 0 (fun _ => False) := by
  refine zin (by decide) (Nat.le_of_ble_eq_true rfl) ?_
  intro p e s m args below meth c ls Q hQ C hr hlk hP hs hl
  have C : CallFix p m c cX12_sizeOf 3 s args zw RX12 := C
  obtain ⟨hx, hb, hml, hown, hts⟩ := id C
  have hO := hM.1
  have hS : va_S (zA K) s.heap s.heap [] := va_S.rf
  have hl : lv_has ls 3 [(0, .ref a0), (1, .int x1)] := hl
  refine lv_aload_n hx hb dX12_sizeOf_0 rfl (lv_at hl 0 rfl) ?_
  refine mg_0 C hs hP ha0 hk0 wf_X12_8 dX12_sizeOf_1 ?_
  have hf_1 := hO.r (j := 0) ha0 hk0 (rfl : zX 11 0 = some (40, 47730))
  refine lv_iload_n hx hb dX12_sizeOf_4 rfl (lv_at hl 1 rfl) ?_
  refine lv_iconst (v := 1) hx hb dX12_sizeOf_5 (by decide) ?_
  refine lv_iadd hx hb dX12_sizeOf_6 ?_
  refine lv_topi (fun x_2 ex_2 => ?_)
  have g_4 := z_rng x1
  obtain ⟨f_2, l_2, u_2⟩ := z_add ex_2 rfl ti_1
  try replace f_2 : x_2.toInt = x1.toInt + 1 := by omega
  have hin_3 : vp_in x_2 (zn K (zr K a0 0)) := vp_in_iff.mpr (by rw [(hf_1.2.2 (by decide))]; refine ⟨?_, ?_⟩ <;> omega)
  refine mld_40 C hs hP hf_1.1 hf_1.2.1 hin_3 dX12_sizeOf_7 ?_
  have ep_5 : x_2.toNatClampNeg = (x1.toInt + 1).toNat := by show x_2.toInt.toNat = _; rw [show x_2.toInt = (x1.toInt + 1) by omega]
  rw [ep_5]
  have hm_hr_6 : x_2.toInt % 1290 = 1 := z_m1290 (b := x1.toInt) (by omega) (by omega) (by omega)
  have hr_6 : 0 ≤ x_2.toInt ∧ x_2.toInt < 47730 ∧ x_2.toInt % 1290 = 1 := by rw [hm_hr_6]; omega
  have tv_7 := rt_1 hT hr_6.1 hr_6.2.1 hr_6.2.2
  rw [ep_5] at tv_7
  refine lv_istore_n (lv' := [(2, .int (A 40 (x1.toInt + 1).toNat)), (0, .ref a0), (1, .int x1)]) hx hb dX12_sizeOf_8 rfl hl (by decide) rfl (fun ls hl => ?_)
  refine lv_aload_n hx hb dX12_sizeOf_9 rfl (lv_at hl 1 rfl) ?_
  refine mg_0 C hs hP ha0 hk0 wf_X12_8 dX12_sizeOf_10 ?_
  refine lv_iload_n hx hb dX12_sizeOf_13 rfl (lv_at hl 2 rfl) ?_
  refine lv_iconst (v := 2) hx hb dX12_sizeOf_14 (by decide) ?_
  refine lv_iadd hx hb dX12_sizeOf_15 ?_
  refine lv_topi (fun x_8 ex_8 => ?_)
  obtain ⟨f_8, l_8, u_8⟩ := z_add ex_8 rfl ti_2
  try replace f_8 : x_8.toInt = x1.toInt + 2 := by omega
  have hin_9 : vp_in x_8 (zn K (zr K a0 0)) := vp_in_iff.mpr (by rw [(hf_1.2.2 (by decide))]; refine ⟨?_, ?_⟩ <;> omega)
  refine mld_40 C hs hP hf_1.1 hf_1.2.1 hin_9 dX12_sizeOf_16 ?_
  have ep_10 : x_8.toNatClampNeg = (x1.toInt + 2).toNat := by show x_8.toInt.toNat = _; rw [show x_8.toInt = (x1.toInt + 2) by omega]
  rw [ep_10]
  refine lv_iconst (v := 4) hx hb dX12_sizeOf_17 (by decide) ?_
  refine bi_eq (tgt := 27) hx hb rfl ti_4 dX12_sizeOf_18 (by decide) (fun c_11 => ?_) (fun c_11 => ?_)
  · skip
    refine lv_iload_n hx hb dX12_sizeOf_27 rfl (lv_at hl 0 rfl) ?_
    refine lv_bipush (v := 8) hx hb dX12_sizeOf_28 (by decide) ?_
    refine bi_ge (tgt := 37) hx hb rfl ti_8 dX12_sizeOf_30 (by decide) (fun c_12 => ?_) (fun c_12 => ?_)
    · skip
      refine lv_iload_n hx hb dX12_sizeOf_37 rfl (lv_at hl 0 rfl) ?_
      refine lv_bipush (v := 8) hx hb dX12_sizeOf_38 (by decide) ?_
      refine lv_idiv hx hb dX12_sizeOf_40 (by decide) ?_
      refine lv_topi (fun x_13 ex_13 => ?_)
      have g_14 := z_rng (A 40 (x1.toInt + 1).toNat)
      have f_d13 := z_div ex_13 rfl ti_8 (by omega) (by decide)
      exact zaS hQ hx hb hr hlk (by first | omega | (intro h9; omega) | (simp; done) | (refine ⟨?_, ?_⟩ <;> intros <;> omega) | (refine ⟨?_, ?_, ?_⟩ <;> intros <;> omega)) dX12_sizeOf_41
    · skip
      refine lv_iconst (v := 1) hx hb dX12_sizeOf_33 (by decide) ?_
      refine lv_goto (tgt := 41) hx hb dX12_sizeOf_34 (by decide) ?_
      exact zaS hQ hx hb hr hlk (by (try simp only [ti_1]); first | omega | (intro h9; omega) | (simp; done) | (refine ⟨?_, ?_⟩ <;> intros <;> omega) | (refine ⟨?_, ?_, ?_⟩ <;> intros <;> omega)) dX12_sizeOf_41
  · skip
    refine lv_iload_n hx hb dX12_sizeOf_21 rfl (lv_at hl 0 rfl) ?_
    refine lv_iconst (v := 4) hx hb dX12_sizeOf_22 (by decide) ?_
    refine lv_idiv hx hb dX12_sizeOf_23 (by decide) ?_
    refine lv_topi (fun x_15 ex_15 => ?_)
    refine lv_goto (tgt := 41) hx hb dX12_sizeOf_24 (by decide) ?_
    have g_16 := z_rng (A 40 (x1.toInt + 1).toNat)
    have f_d15 := z_div ex_15 rfl ti_4 (by omega) (by decide)
    exact zaS hQ hx hb hr hlk (by first | omega | (intro h9; omega) | (simp; done) | (refine ⟨?_, ?_⟩ <;> intros <;> omega) | (refine ⟨?_, ?_, ?_⟩ <;> intros <;> omega)) dX12_sizeOf_41
set_option maxHeartbeats 4000000 in
set_option maxRecDepth 100000 in
theorem c_X12_isOpen (l : Launch) (D : va_G) (K : zK) (hM : mK K) (f : Nat → Int32) (A : Nat → Nat → Int32) (hT : mT f A) (a0 : Nat) (ha0 : a0 ∈ zl K) (hk0 : zk K a0 = 11) (x1 : Int32) (x2 : Int32) (hp0 : 0 ≤ x1.toInt ∧ x1.toInt ≤ 46440 ∧ x1.toInt % 1290 = 0) (hp1 : 0 ≤ x2.toInt ∧ x2.toInt ≤ 3) : Met l yX12_isOpen (zc yX12_isOpen cX12_isOpen 3 (some .boolean)) (rmd 0) (va_Pc [.ref a0, .int x1, .int x2] (zB D K (mV K f A))) (vp_Si (fun r => (r = 0 ∨ r = 1) ∧ (r.toInt ≠ 0 → (A 40 (x1.toInt + 5).toNat).toInt = 1 ∧ (A 40 (x1.toInt + x2.toInt + 35).toNat).toInt = 1))) 0 0 (fun _ => False) := by
  refine zin (by decide) (Nat.le_of_ble_eq_true rfl) ?_
  intro p e s m args below meth c ls Q hQ C hr hlk hP hs hl
  have C : CallFix p m c cX12_isOpen 3 s args zw RX12 := C
  obtain ⟨hx, hb, hml, hown, hts⟩ := id C
  have hO := hM.1
  have hS : va_S (zA K) s.heap s.heap [] := va_S.rf
  have hl : lv_has ls 3 [(0, .ref a0), (1, .int x1), (2, .int x2)] := hl
  refine lv_aload_n hx hb dX12_isOpen_0 rfl (lv_at hl 0 rfl) ?_
  refine mg_0 C hs hP ha0 hk0 wf_X12_8 dX12_isOpen_1 ?_
  have hf_1 := hO.r (j := 0) ha0 hk0 (rfl : zX 11 0 = some (40, 47730))
  refine lv_iload_n hx hb dX12_isOpen_4 rfl (lv_at hl 1 rfl) ?_
  refine lv_iconst (v := 5) hx hb dX12_isOpen_5 (by decide) ?_
  refine lv_iadd hx hb dX12_isOpen_6 ?_
  refine lv_topi (fun x_2 ex_2 => ?_)
  have g_4 := z_rng x1
  obtain ⟨f_2, l_2, u_2⟩ := z_add ex_2 rfl ti_5
  try replace f_2 : x_2.toInt = x1.toInt + 5 := by omega
  have hin_3 : vp_in x_2 (zn K (zr K a0 0)) := vp_in_iff.mpr (by rw [(hf_1.2.2 (by decide))]; refine ⟨?_, ?_⟩ <;> omega)
  refine mld_40 C hs hP hf_1.1 hf_1.2.1 hin_3 dX12_isOpen_7 ?_
  have ep_5 : x_2.toNatClampNeg = (x1.toInt + 5).toNat := by show x_2.toInt.toNat = _; rw [show x_2.toInt = (x1.toInt + 5) by omega]
  rw [ep_5]
  refine lv_iconst (v := 1) hx hb dX12_isOpen_8 (by decide) ?_
  refine bi_ne (tgt := 43) hx hb rfl ti_1 dX12_isOpen_9 (by decide) (fun c_6 => ?_) (fun c_6 => ?_)
  · skip
    refine lv_iconst (v := 0) hx hb dX12_isOpen_43 (by decide) ?_
    exact zaSz hQ hx hb hr hlk (Or.inl rfl) ⟨(Or.inl rfl), (by (try simp only [ti_0]); first | omega | (intro h9; omega) | (simp; done) | (refine ⟨?_, ?_⟩ <;> intros <;> omega) | (refine ⟨?_, ?_, ?_⟩ <;> intros <;> omega))⟩ dX12_isOpen_44
  · skip
    refine lv_aload_n hx hb dX12_isOpen_12 rfl (lv_at hl 0 rfl) ?_
    refine mg_0 C hs hP ha0 hk0 wf_X12_8 dX12_isOpen_13 ?_
    refine lv_iload_n hx hb dX12_isOpen_16 rfl (lv_at hl 1 rfl) ?_
    refine lv_bipush (v := 14) hx hb dX12_isOpen_17 (by decide) ?_
    refine lv_iadd hx hb dX12_isOpen_19 ?_
    refine lv_topi (fun x_7 ex_7 => ?_)
    obtain ⟨f_7, l_7, u_7⟩ := z_add ex_7 rfl ti_14
    try replace f_7 : x_7.toInt = x1.toInt + 14 := by omega
    have hin_8 : vp_in x_7 (zn K (zr K a0 0)) := vp_in_iff.mpr (by rw [(hf_1.2.2 (by decide))]; refine ⟨?_, ?_⟩ <;> omega)
    refine mld_40 C hs hP hf_1.1 hf_1.2.1 hin_8 dX12_isOpen_20 ?_
    have ep_9 : x_7.toNatClampNeg = (x1.toInt + 14).toNat := by show x_7.toInt.toNat = _; rw [show x_7.toInt = (x1.toInt + 14) by omega]
    rw [ep_9]
    refine bz_ne (tgt := 43) hx hb rfl dX12_isOpen_21 (by decide) (fun c_10 => ?_) (fun c_10 => ?_)
    · skip
      refine lv_iconst (v := 0) hx hb dX12_isOpen_43 (by decide) ?_
      exact zaSz hQ hx hb hr hlk (Or.inl rfl) ⟨(Or.inl rfl), (by (try simp only [ti_0]); first | omega | (intro h9; omega) | (simp; done) | (refine ⟨?_, ?_⟩ <;> intros <;> omega) | (refine ⟨?_, ?_, ?_⟩ <;> intros <;> omega))⟩ dX12_isOpen_44
    · skip
      refine lv_aload_n hx hb dX12_isOpen_24 rfl (lv_at hl 0 rfl) ?_
      refine mg_0 C hs hP ha0 hk0 wf_X12_8 dX12_isOpen_25 ?_
      refine lv_iload_n hx hb dX12_isOpen_28 rfl (lv_at hl 1 rfl) ?_
      refine lv_bipush (v := 35) hx hb dX12_isOpen_29 (by decide) ?_
      refine lv_iadd hx hb dX12_isOpen_31 ?_
      refine lv_topi (fun x_11 ex_11 => ?_)
      refine lv_iload_n hx hb dX12_isOpen_32 rfl (lv_at hl 2 rfl) ?_
      refine lv_iadd hx hb dX12_isOpen_33 ?_
      refine lv_topi (fun x_12 ex_12 => ?_)
      obtain ⟨f_11, l_11, u_11⟩ := z_add ex_11 rfl ti_35
      try replace f_11 : x_11.toInt = x1.toInt + 35 := by omega
      have g_14 := z_rng x2
      obtain ⟨f_12, l_12, u_12⟩ := z_add ex_12 rfl rfl
      try replace f_12 : x_12.toInt = x_11.toInt + x2.toInt := by omega
      have hin_13 : vp_in x_12 (zn K (zr K a0 0)) := vp_in_iff.mpr (by rw [(hf_1.2.2 (by decide))]; refine ⟨?_, ?_⟩ <;> omega)
      refine mld_40 C hs hP hf_1.1 hf_1.2.1 hin_13 dX12_isOpen_34 ?_
      have ep_15 : x_12.toNatClampNeg = (x1.toInt + x2.toInt + 35).toNat := by show x_12.toInt.toNat = _; rw [show x_12.toInt = (x1.toInt + x2.toInt + 35) by omega]
      rw [ep_15]
      have hm_hr_16 : x_12.toInt % 1290 = x2.toInt + 35 := z_m1290 (b := x1.toInt) (by omega) (by omega) (by omega)
      have hr_16 : 0 ≤ x_12.toInt ∧ x_12.toInt < 47730 ∧ 35 ≤ x_12.toInt % 1290 ∧ x_12.toInt % 1290 ≤ 38 := by rw [hm_hr_16]; omega
      have tv_17 := rt_35 hT hr_16.1 hr_16.2.1 hr_16.2.2.1 hr_16.2.2.2
      rw [ep_15] at tv_17
      refine lv_iconst (v := 1) hx hb dX12_isOpen_35 (by decide) ?_
      refine bi_ne (tgt := 43) hx hb rfl ti_1 dX12_isOpen_36 (by decide) (fun c_18 => ?_) (fun c_18 => ?_)
      · skip
        refine lv_iconst (v := 0) hx hb dX12_isOpen_43 (by decide) ?_
        exact zaSz hQ hx hb hr hlk (Or.inl rfl) ⟨(Or.inl rfl), (by (try simp only [ti_0]); first | omega | (intro h9; omega) | (simp; done) | (refine ⟨?_, ?_⟩ <;> intros <;> omega) | (refine ⟨?_, ?_, ?_⟩ <;> intros <;> omega))⟩ dX12_isOpen_44
      · skip
        refine lv_iconst (v := 1) hx hb dX12_isOpen_39 (by decide) ?_
        refine lv_goto (tgt := 44) hx hb dX12_isOpen_40 (by decide) ?_
        exact zaSz hQ hx hb hr hlk (Or.inr rfl) ⟨(Or.inr rfl), (by (try simp only [ti_1]); first | omega | (intro h9; omega) | (simp; done) | (refine ⟨?_, ?_⟩ <;> intros <;> omega) | (refine ⟨?_, ?_, ?_⟩ <;> intros <;> omega))⟩ dX12_isOpen_44
