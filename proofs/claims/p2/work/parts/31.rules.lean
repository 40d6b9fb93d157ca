set_option maxHeartbeats 4000000 in
set_option maxRecDepth 100000 in
theorem c_X12_has (l : Launch) (D : va_G) (K : zK) (hM : mK K) (f : Nat → Int32) (A : Nat → Nat → Int32) (hT : mT f A) (a0 : Nat) (ha0 : a0 ∈ zl K) (hk0 : zk K a0 = 11) (x1 : Int32) (x2 : Int32) (hp0 : zRow x1.toInt) : Met l yX12_has (zc yX12_has cX12_has 4 (some .boolean)) (rmd 1) (va_Pc [.ref a0, .int x1, .int x2] (zB D K (mV K f A))) (vp_Si (fun r => (r = 0 ∨ r = 1))) 0 0 (fun _ => False) := by
  refine zin (by decide) (Nat.le_of_ble_eq_true rfl) ?_
  intro p e s m args below meth c ls Q hQ C hr hlk hP hs hl
  have C : CallFix p m c cX12_has 4 s args zw RX12 := C
  obtain ⟨hx, hb, hml, hown, hts⟩ := id C
  have hO := hM.1
  have hS : va_S (zA K) s.heap s.heap [] := va_S.rf
  have hl : lv_has ls 4 [(0, .ref a0), (1, .int x1), (2, .int x2)] := hl
  have hb0 := hp0.lin
  refine lv_iconst (v := 0) hx hb dX12_has_0 (by decide) ?_
  refine lv_istore_n (lv' := [(3, .int 0), (0, .ref a0), (1, .int x1), (2, .int x2)]) hx hb dX12_has_1 rfl hl (by decide) rfl (fun ls hl => ?_)
  have L_2_2 : ∀ (n_2 : Nat) (y_1 : Int32) (ls : Array Slot), (2147483648 - y_1.toInt).toNat < n_2 → 0 ≤ y_1.toInt → lv_has ls 4 [(3, .int y_1), (0, .ref a0), (1, .int x1), (2, .int x2)] → W p l e (rmd 1) s m args below meth c s.heap [] 0 0 Q (F0 m 2 ls []) := by
    intro n_2
    induction n_2 with
    | zero => intro y_1 ls hm_2; exact absurd hm_2 (Nat.not_lt_zero _)
    | succ n_2 ih_2 =>
      intro y_1 ls hm_2 iv_3_0 hl
      refine lv_iload_n hx hb dX12_has_2 rfl (lv_at hl 0 rfl) ?_
      refine lv_aload_n hx hb dX12_has_3 rfl (lv_at hl 1 rfl) ?_
      refine mg_14 C hs hP ha0 hk0 wf_X12_117 dX12_has_4 ?_
      have tf_4 : 0 ≤ (f 14).toInt ∧ (f 14).toInt ≤ 60 := hT.1 14
      refine bi_ge (tgt := 33) hx hb rfl rfl dX12_has_7 (by decide) (fun c_5 => ?_) (fun c_5 => ?_)
      · skip
        refine lv_iconst (v := 0) hx hb dX12_has_33 (by decide) ?_
        exact zaSz hQ hx hb hr hlk (Or.inl rfl) (Or.inl rfl) dX12_has_34
      · skip
        refine lv_aload_n hx hb dX12_has_10 rfl (lv_at hl 1 rfl) ?_
        refine lv_iload_n hx hb dX12_has_11 rfl (lv_at hl 2 rfl) ?_
        refine lv_aload_n hx hb dX12_has_12 rfl (lv_at hl 1 rfl) ?_
        refine mg_13 C hs hP ha0 hk0 wf_X12_36 dX12_has_13 ?_
        have hf_6 := hO.r (j := 13) ha0 hk0 (rfl : zX 11 13 = some (53, 60))
        refine lv_iload_n hx hb dX12_has_16 rfl (lv_at hl 0 rfl) ?_
        have g_8 := z_rng y_1
        have hin_7 : vp_in y_1 (zn K (zr K a0 13)) := vp_in_iff.mpr (by rw [(hf_6.2.2 (by decide))]; refine ⟨?_, ?_⟩ <;> omega)
        refine mld_53 C hs hP hf_6.1 hf_6.2.1 hin_7 dX12_has_17 ?_
        have tv_9 := ra_53 hT (vp_in_iff.mp hin_7).1 (by have h7 := (vp_in_iff.mp hin_7).2; rw [(hf_6.2.2 (by decide))] at h7; exact h7)
        have g_10 := z_rng x1
        have g_11 := z_rng (A 53 y_1.toNatClampNeg)
        have hq_12 : 0 ≤ (A 53 y_1.toNatClampNeg).toInt ∧ (A 53 y_1.toNatClampNeg).toInt ≤ 59 := by first | assumption | omega | (intros; omega)
        refine zcS (zrV (As := [.int x1, .int (A 53 y_1.toNatClampNeg)]) (b := a0) (rest := []) C hs hP hS (c_X12_colour l D K hM f A hT a0 ha0 hk0 x1 (A 53 y_1.toNatClampNeg) hp0 hq_12) m_X12_colour wm_X12_120 (zrecv hs hP ha0 (zF_11 hk0) rfl) ⟨by decide, by decide⟩ hl.1 (Nat.le_of_ble_eq_true rfl) dX12_has_18) (fun x_13 p_13 => ?_)
        have pp_13 : x_13 = mcol (A 40) x1 (A 53 y_1.toNatClampNeg) := p_13
        have pq_13 := congrArg Int32.toInt pp_13
        refine lv_iload_n hx hb dX12_has_21 rfl (lv_at hl 3 rfl) ?_
        refine bi_ne (tgt := 27) hx hb rfl rfl dX12_has_22 (by decide) (fun c_14 => ?_) (fun c_14 => ?_)
        · skip
          obtain ⟨x_15, ex_15⟩ : ∃ y : Int32, y = y_1 + 1 := ⟨_, rfl⟩
          refine lv_iinc (v := x_15) (lv' := [(3, .int x_15), (0, .ref a0), (1, .int x1), (2, .int x2)]) hx hb dX12_has_27 hl (k := 0) rfl (by rw [ex_15]; rfl) (by decide) rfl (fun ls hl => ?_)
          refine lv_goto (tgt := 2) hx hb dX12_has_30 (by decide) ?_
          obtain ⟨f_15, l_15, u_15⟩ := z_add ex_15 rfl ti_1
          try replace f_15 : x_15.toInt = y_1.toInt + 1 := by omega
          have g_16 := z_rng (f 14)
          have g_17 := z_rng x2
          have g_18 := z_rng x_13
          exact ih_2 x_15 _ (by omega) (by omega) (lv_sub hl [0, 1, 2, 3] rfl)
        · skip
          refine lv_iconst (v := 1) hx hb dX12_has_25 (by decide) ?_
          exact zaSz hQ hx hb hr hlk (Or.inr rfl) (Or.inr rfl) dX12_has_26
  exact L_2_2 _ 0 _ (Nat.lt_succ_self _) (by (try simp only [ti_0]); omega) (lv_sub hl [0, 1, 2, 3] rfl)
set_option maxHeartbeats 4000000 in
set_option maxRecDepth 100000 in
theorem c_X12_hasOther (l : Launch) (D : va_G) (K : zK) (hM : mK K) (f : Nat → Int32) (A : Nat → Nat → Int32) (hT : mT f A) (a0 : Nat) (ha0 : a0 ∈ zl K) (hk0 : zk K a0 = 11) (x1 : Int32) (x2 : Int32) (hp0 : zRow x1.toInt) : Met l yX12_hasOther (zc yX12_hasOther cX12_hasOther 5 (some .boolean)) (rmd 1) (va_Pc [.ref a0, .int x1, .int x2] (zB D K (mV K f A))) (vp_Si (fun r => (r = 0 ∨ r = 1))) 0 0 (fun _ => False) := by
  refine zin (by decide) (Nat.le_of_ble_eq_true rfl) ?_
  intro p e s m args below meth c ls Q hQ C hr hlk hP hs hl
  have C : CallFix p m c cX12_hasOther 5 s args zw RX12 := C
  obtain ⟨hx, hb, hml, hown, hts⟩ := id C
  have hO := hM.1
  have hS : va_S (zA K) s.heap s.heap [] := va_S.rf
  have hl : lv_has ls 5 [(0, .ref a0), (1, .int x1), (2, .int x2)] := hl
  have hb0 := hp0.lin
  refine lv_iconst (v := 0) hx hb dX12_hasOther_0 (by decide) ?_
  refine lv_istore_n (lv' := [(3, .int 0), (0, .ref a0), (1, .int x1), (2, .int x2)]) hx hb dX12_hasOther_1 rfl hl (by decide) rfl (fun ls hl => ?_)
  have L_2_2 : ∀ (n_2 : Nat) (y_1 : Int32) (ls : Array Slot), (2147483648 - y_1.toInt).toNat < n_2 → 0 ≤ y_1.toInt → lv_has ls 5 [(3, .int y_1), (0, .ref a0), (1, .int x1), (2, .int x2)] → W p l e (rmd 1) s m args below meth c s.heap [] 0 0 Q (F0 m 2 ls []) := by
    intro n_2
    induction n_2 with
    | zero => intro y_1 ls hm_2; exact absurd hm_2 (Nat.not_lt_zero _)
    | succ n_2 ih_2 =>
      intro y_1 ls hm_2 iv_3_0 hl
      refine lv_iload_n hx hb dX12_hasOther_2 rfl (lv_at hl 0 rfl) ?_
      refine lv_aload_n hx hb dX12_hasOther_3 rfl (lv_at hl 1 rfl) ?_
      refine mg_14 C hs hP ha0 hk0 wf_X12_117 dX12_hasOther_4 ?_
      have tf_4 : 0 ≤ (f 14).toInt ∧ (f 14).toInt ≤ 60 := hT.1 14
      refine bi_ge (tgt := 44) hx hb rfl rfl dX12_hasOther_7 (by decide) (fun c_5 => ?_) (fun c_5 => ?_)
      · skip
        refine lv_iconst (v := 0) hx hb dX12_hasOther_44 (by decide) ?_
        exact zaSz hQ hx hb hr hlk (Or.inl rfl) (Or.inl rfl) dX12_hasOther_45
      · skip
        refine lv_aload_n hx hb dX12_hasOther_10 rfl (lv_at hl 1 rfl) ?_
        refine lv_iload_n hx hb dX12_hasOther_11 rfl (lv_at hl 2 rfl) ?_
        refine lv_aload_n hx hb dX12_hasOther_12 rfl (lv_at hl 1 rfl) ?_
        refine mg_13 C hs hP ha0 hk0 wf_X12_36 dX12_hasOther_13 ?_
        have hf_6 := hO.r (j := 13) ha0 hk0 (rfl : zX 11 13 = some (53, 60))
        refine lv_iload_n hx hb dX12_hasOther_16 rfl (lv_at hl 0 rfl) ?_
        have g_8 := z_rng y_1
        have hin_7 : vp_in y_1 (zn K (zr K a0 13)) := vp_in_iff.mpr (by rw [(hf_6.2.2 (by decide))]; refine ⟨?_, ?_⟩ <;> omega)
        refine mld_53 C hs hP hf_6.1 hf_6.2.1 hin_7 dX12_hasOther_17 ?_
        have tv_9 := ra_53 hT (vp_in_iff.mp hin_7).1 (by have h7 := (vp_in_iff.mp hin_7).2; rw [(hf_6.2.2 (by decide))] at h7; exact h7)
        have g_10 := z_rng x1
        have g_11 := z_rng (A 53 y_1.toNatClampNeg)
        have hq_12 : 0 ≤ (A 53 y_1.toNatClampNeg).toInt ∧ (A 53 y_1.toNatClampNeg).toInt ≤ 59 := by first | assumption | omega | (intros; omega)
        refine zcS (zrV (As := [.int x1, .int (A 53 y_1.toNatClampNeg)]) (b := a0) (rest := []) C hs hP hS (c_X12_colour l D K hM f A hT a0 ha0 hk0 x1 (A 53 y_1.toNatClampNeg) hp0 hq_12) m_X12_colour wm_X12_120 (zrecv hs hP ha0 (zF_11 hk0) rfl) ⟨by decide, by decide⟩ hl.1 (Nat.le_of_ble_eq_true rfl) dX12_hasOther_18) (fun x_13 p_13 => ?_)
        have pp_13 : x_13 = mcol (A 40) x1 (A 53 y_1.toNatClampNeg) := p_13
        have pq_13 := congrArg Int32.toInt pp_13
        refine lv_istore (lv' := [(4, .int x_13), (3, .int y_1), (0, .ref a0), (1, .int x1), (2, .int x2)]) hx hb dX12_hasOther_21 hl (by decide) rfl (fun ls hl => ?_)
        refine lv_iload hx hb dX12_hasOther_23 (lv_at hl 0 rfl) ?_
        refine lv_iload_n hx hb dX12_hasOther_25 rfl (lv_at hl 4 rfl) ?_
        refine bi_eq (tgt := 38) hx hb rfl rfl dX12_hasOther_26 (by decide) (fun c_14 => ?_) (fun c_14 => ?_)
        · skip
          obtain ⟨x_15, ex_15⟩ : ∃ y : Int32, y = y_1 + 1 := ⟨_, rfl⟩
          refine lv_iinc (v := x_15) (lv' := [(3, .int x_15), (4, .int x_13), (0, .ref a0), (1, .int x1), (2, .int x2)]) hx hb dX12_hasOther_38 hl (k := 1) rfl (by rw [ex_15]; rfl) (by decide) rfl (fun ls hl => ?_)
          refine lv_goto (tgt := 2) hx hb dX12_hasOther_41 (by decide) ?_
          obtain ⟨f_15, l_15, u_15⟩ := z_add ex_15 rfl ti_1
          try replace f_15 : x_15.toInt = y_1.toInt + 1 := by omega
          have g_16 := z_rng (f 14)
          have g_17 := z_rng x2
          have g_18 := z_rng x_13
          exact ih_2 x_15 _ (by omega) (by omega) (lv_sub hl [0, 2, 3, 4] rfl)
        · skip
          refine lv_iload hx hb dX12_hasOther_29 (lv_at hl 0 rfl) ?_
          refine lv_bipush (v := 6) hx hb dX12_hasOther_31 (by decide) ?_
          refine bi_eq (tgt := 38) hx hb rfl ti_6 dX12_hasOther_33 (by decide) (fun c_19 => ?_) (fun c_19 => ?_)
          · skip
            obtain ⟨x_20, ex_20⟩ : ∃ y : Int32, y = y_1 + 1 := ⟨_, rfl⟩
            refine lv_iinc (v := x_20) (lv' := [(3, .int x_20), (4, .int x_13), (0, .ref a0), (1, .int x1), (2, .int x2)]) hx hb dX12_hasOther_38 hl (k := 1) rfl (by rw [ex_20]; rfl) (by decide) rfl (fun ls hl => ?_)
            refine lv_goto (tgt := 2) hx hb dX12_hasOther_41 (by decide) ?_
            obtain ⟨f_20, l_20, u_20⟩ := z_add ex_20 rfl ti_1
            try replace f_20 : x_20.toInt = y_1.toInt + 1 := by omega
            have g_21 := z_rng (f 14)
            have g_22 := z_rng x2
            have g_23 := z_rng x_13
            exact ih_2 x_20 _ (by omega) (by omega) (lv_sub hl [0, 2, 3, 4] rfl)
          · skip
            refine lv_iconst (v := 1) hx hb dX12_hasOther_36 (by decide) ?_
            exact zaSz hQ hx hb hr hlk (Or.inr rfl) (Or.inr rfl) dX12_hasOther_37
  exact L_2_2 _ 0 _ (Nat.lt_succ_self _) (by (try simp only [ti_0]); omega) (lv_sub hl [0, 1, 2, 3] rfl)
set_option maxHeartbeats 4000000 in
set_option maxRecDepth 100000 in
theorem c_X12_allows (l : Launch) (D : va_G) (K : zK) (hM : mK K) (f : Nat → Int32) (A : Nat → Nat → Int32) (hT : mT f A) (a0 : Nat) (ha0 : a0 ∈ zl K) (hk0 : zk K a0 = 11) (x1 : Int32) (x2 : Int32) (hp0 : zRow x1.toInt) (hp1 : 0 ≤ x2.toInt ∧ x2.toInt ≤ 59) (hp2 : (f 11).toInt ≤ 1990000000) : Met l yX12_allows (zc yX12_allows cX12_allows 7 (some .int)) (rmd 2) (va_Pc [.ref a0, .int x1, .int x2] (zB D K (mV K f A))) (mQi D K (fun r f' A' => mT f' A' ∧ (∀ k, k ∉ ([50] : List Nat) → A' k = A k) ∧ (∀ k, k ∉ ([11] : List Nat) → f' k = f k) ∧ (f 11).toInt ≤ (f' 11).toInt ∧ (f' 11).toInt ≤ (f 11).toInt + 3 ∧ ((f 12).toInt ≠ 0 → (f' 11).toInt = (f 11).toInt))) 0 0 (zA K) := by
  refine zin (by decide) (Nat.le_of_ble_eq_true rfl) ?_
  intro p e s m args below meth c ls Q hQ C hr hlk hP hs hl
  have C : CallFix p m c cX12_allows 7 s args zw RX12 := C
  obtain ⟨hx, hb, hml, hown, hts⟩ := id C
  have hO := hM.1
  have hS : va_S (zA K) s.heap s.heap [] := va_S.rf
  have FA : ∀ k, k ∉ ([50] : List Nat) → A k = A k := fun _ _ => rfl
  have FF : ∀ k, k ∉ ([11] : List Nat) → f k = f k := fun _ _ => rfl
  have hl : lv_has ls 7 [(0, .ref a0), (1, .int x1), (2, .int x2)] := hl
  have hb0 := hp0.lin
  refine lv_aload_n hx hb dX12_allows_0 rfl (lv_at hl 0 rfl) ?_
  refine mg_0 C hs hP ha0 hk0 wf_X12_8 dX12_allows_1 ?_
  have hf_1 := hO.r (j := 0) ha0 hk0 (rfl : zX 11 0 = some (40, 47730))
  refine lv_iload_n hx hb dX12_allows_4 rfl (lv_at hl 1 rfl) ?_
  refine lv_iconst (v := 3) hx hb dX12_allows_5 (by decide) ?_
  refine lv_iadd hx hb dX12_allows_6 ?_
  refine lv_topi (fun x_2 ex_2 => ?_)
  have g_3 := z_rng x1
  obtain ⟨f_2, l_2, u_2⟩ := z_add ex_2 rfl ti_3
  try replace f_2 : x_2.toInt = x1.toInt + 3 := by omega
  have hi_hr_4 : x_2.toInt = x1.toInt + (3) := by omega
  have hr_4 := z_cell (lo := 2) (hi := 8) hp0 hi_hr_4 (by decide) (by decide)
  have hin_5 : vp_in x_2 (zn K (zr K a0 0)) := vp_in_iff.mpr (by rw [(hf_1.2.2 (by decide))]; exact hr_4.in)
  refine mld_40 C hs hP hf_1.1 hf_1.2.1 hin_5 dX12_allows_7 ?_
  have ep_6 : x_2.toNatClampNeg = (x1.toInt + 3).toNat := z_pos (hi_hr_4.trans (by omega))
  rw [ep_6]
  refine lv_istore_n (lv' := [(3, .int (A 40 (x1.toInt + 3).toNat)), (0, .ref a0), (1, .int x1), (2, .int x2)]) hx hb dX12_allows_8 rfl hl (by decide) rfl (fun ls hl => ?_)
  refine lv_iload_n hx hb dX12_allows_9 rfl (lv_at hl 0 rfl) ?_
  refine lv_iconst (v := 1) hx hb dX12_allows_10 (by decide) ?_
  have J_24_10 : ∀ (y_9 : Int32) (ls : Array Slot), (y_9 = 0 ∨ y_9 = 1) → lv_has ls 7 [(0, .ref a0), (1, .int x1), (2, .int x2), (3, .int (A 40 (x1.toInt + 3).toNat))] → W p l e (rmd 2) s m args below meth c s.heap [] 0 0 Q (F0 m 24 ls [.int y_9]) := by
    intro y_9 ls hb_y_9 hl
    refine lv_istore (lv' := [(4, .int y_9), (0, .ref a0), (1, .int x1), (2, .int x2), (3, .int (A 40 (x1.toInt + 3).toNat))]) hx hb dX12_allows_24 hl (by decide) rfl (fun ls hl => ?_)
    refine lv_aload_n hx hb dX12_allows_26 rfl (lv_at hl 1 rfl) ?_
    refine mg_0 C hs hP ha0 hk0 wf_X12_8 dX12_allows_27 ?_
    refine lv_iload_n hx hb dX12_allows_30 rfl (lv_at hl 2 rfl) ?_
    refine lv_iconst (v := 2) hx hb dX12_allows_31 (by decide) ?_
    refine lv_iadd hx hb dX12_allows_32 ?_
    refine lv_topi (fun x_12 ex_12 => ?_)
    obtain ⟨f_12, l_12, u_12⟩ := z_add ex_12 rfl ti_2
    try replace f_12 : x_12.toInt = x1.toInt + 2 := by omega
    have hi_hr_13 : x_12.toInt = x1.toInt + (2) := by omega
    have hr_13 := z_cell (lo := 2) (hi := 8) hp0 hi_hr_13 (by decide) (by decide)
    have hin_14 : vp_in x_12 (zn K (zr K a0 0)) := vp_in_iff.mpr (by rw [(hf_1.2.2 (by decide))]; exact hr_13.in)
    refine mld_40 C hs hP hf_1.1 hf_1.2.1 hin_14 dX12_allows_33 ?_
    have ep_15 : x_12.toNatClampNeg = (x1.toInt + 2).toNat := z_pos (hi_hr_13.trans (by omega))
    rw [ep_15]
    refine lv_iconst (v := 4) hx hb dX12_allows_34 (by decide) ?_
    have J_44_19 : ∀ (f_20 : Nat → Int32) (A_20 : Nat → Nat → Int32) (H : Heap) (locs : List Loc) (ls : Array Slot), ((f 11).toInt ≤ (f_20 11).toInt ∧ (f_20 11).toInt ≤ (f 11).toInt + 1 ∧ ((f 12).toInt ≠ 0 → (f_20 11).toInt = (f 11).toInt)) → (∀ k, k ∉ ([50] : List Nat) → A_20 k = A k) → (∀ k, k ∉ ([11] : List Nat) → f_20 k = f k) → mT f_20 A_20 → va_P D vwCl (zW K (mV K f_20 A_20)) H → va_S (zA K) s.heap H locs → lv_has ls 7 [(0, .ref a0), (1, .int x1), (2, .int x2), (3, .int (A 40 (x1.toInt + 3).toNat)), (4, .int y_9)] → W p l e (rmd 2) s m args below meth c H locs 0 0 Q (F0 m 44 ls []) := by
      intro f_20 A_20 H locs ls iv_20_0 FA_20 FF_20 hT hP hS hl
      have FA := FA_20
      have FF := FF_20
      refine lv_iload hx hb dX12_allows_44 (lv_at hl 4 rfl) ?_
      have J_70_40 : ∀ (f_41 : Nat → Int32) (A_41 : Nat → Nat → Int32) (H : Heap) (locs : List Loc) (ls : Array Slot), ((f 11).toInt ≤ (f_41 11).toInt ∧ (f_41 11).toInt ≤ (f 11).toInt + 2 ∧ ((f 12).toInt ≠ 0 → (f_41 11).toInt = (f 11).toInt)) → (∀ k, k ∉ ([50] : List Nat) → A_41 k = A k) → (∀ k, k ∉ ([11] : List Nat) → f_41 k = f k) → mT f_41 A_41 → va_P D vwCl (zW K (mV K f_41 A_41)) H → va_S (zA K) s.heap H locs → lv_has ls 7 [(0, .ref a0), (1, .int x1), (2, .int x2), (3, .int (A 40 (x1.toInt + 3).toNat)), (4, .int y_9)] → W p l e (rmd 2) s m args below meth c H locs 0 0 Q (F0 m 70 ls []) := by
        intro f_41 A_41 H locs ls iv_41_0 FA_41 FF_41 hT hP hS hl
        have FA := FA_41
        have FF := FF_41
        refine lv_aload_n hx hb dX12_allows_70 rfl (lv_at hl 0 rfl) ?_
        refine lv_bipush (v := 21) hx hb dX12_allows_71 (by decide) ?_
        have hq_43 : (f_41 11).toInt ≤ 2000000000 := by (try simp only [ti_21]); first | assumption | omega | (intros; omega)
        refine mcV (zrV (As := [.int 21]) (b := a0) (rest := []) C hs hP hS (c_X12_body l D K hM f_41 A_41 hT a0 ha0 hk0 21 hq_43) m_X12_body wm_X12_124 (zrecv hs hP ha0 (zF_11 hk0) rfl) ⟨by decide, by decide⟩ hl.1 (Nat.le_of_ble_eq_true rfl) dX12_allows_73) hS (fun f_44 A_44 H locs p_44 hP hS => ?_)
        obtain ⟨hT, hA_44, hF_44, pp_44⟩ := p_44
        have pp_44 : (f_41 11).toInt ≤ (f_44 11).toInt ∧ (f_44 11).toInt ≤ (f_41 11).toInt + 1 ∧ ((f_41 12).toInt ≠ 0 → (f_44 11).toInt = (f_41 11).toInt) := pp_44
        have ev_45 : f_41 12 = f 12 := by rw [FF_41 12 (by decide)]
        rw [ev_45] at pp_44
        try simp only [ti_21] at pp_44
        have FA := frA FA hA_44 (by decide)
        have FF := frF FF hF_44 (by decide)
        refine lv_aload_n hx hb dX12_allows_76 rfl (lv_at hl 0 rfl) ?_
        refine lv_iload_n hx hb dX12_allows_77 rfl (lv_at hl 1 rfl) ?_
        refine lv_iload_n hx hb dX12_allows_78 rfl (lv_at hl 2 rfl) ?_
        have g_46 := z_rng x2
        have hq_47 : 0 ≤ x2.toInt ∧ x2.toInt ≤ 59 := by first | assumption | omega | (intros; omega)
        refine zcS (zrV (As := [.int x1, .int x2]) (b := a0) (rest := []) C hs hP hS (c_X12_colour l D K hM f_44 A_44 hT a0 ha0 hk0 x1 x2 hp0 hq_47) m_X12_colour wm_X12_120 (zrecv hs hP ha0 (zF_11 hk0) rfl) ⟨by decide, by decide⟩ hl.1 (Nat.le_of_ble_eq_true rfl) dX12_allows_79) (fun x_48 p_48 => ?_)
        have pp_48 : x_48 = mcol (A_44 40) x1 x2 := p_48
        have ev_49 : A_44 40 = A 40 := by rw [hA_44 40 (by decide), FA_41 40 (by decide)]
        rw [ev_49] at pp_48
        have pq_48 := congrArg Int32.toInt pp_48
        refine lv_istore (lv' := [(5, .int x_48), (0, .ref a0), (1, .int x1), (2, .int x2), (3, .int (A 40 (x1.toInt + 3).toNat)), (4, .int y_9)]) hx hb dX12_allows_82 hl (by decide) rfl (fun ls hl => ?_)
        refine lv_aload_n hx hb dX12_allows_84 rfl (lv_at hl 1 rfl) ?_
        refine mg_16 C hs hP ha0 hk0 wf_X12_127 dX12_allows_85 ?_
        have ev_50 : f_44 16 = f 16 := by rw [hF_44 16 (by decide), FF_41 16 (by decide)]
        rw [ev_50]
        have tf_51 : 0 ≤ (f 16).toInt ∧ (f 16).toInt ≤ 4 := by rw [← ev_50]; exact hT.1 16
        have J_106_63 : ∀ (y_62 : Int32) (ls : Array Slot), lv_has ls 7 [(0, .ref a0), (1, .int x1), (2, .int x2), (3, .int (A 40 (x1.toInt + 3).toNat)), (4, .int y_9), (5, .int x_48)] → W p l e (rmd 2) s m args below meth c H locs 0 0 Q (F0 m 106 ls [.int y_62]) := by
          intro y_62 ls hl
          refine lv_istore (lv' := [(6, .int y_62), (0, .ref a0), (1, .int x1), (2, .int x2), (3, .int (A 40 (x1.toInt + 3).toNat)), (4, .int y_9), (5, .int x_48)]) hx hb dX12_allows_106 hl (by decide) rfl (fun ls hl => ?_)
          refine lv_iload hx hb dX12_allows_108 (lv_at hl 6 rfl) ?_
          refine lv_iconst (v := 5) hx hb dX12_allows_110 (by decide) ?_
          refine bi_eq (tgt := 120) hx hb rfl ti_5 dX12_allows_111 (by decide) (fun c_65 => ?_) (fun c_65 => ?_)
          · skip
            refine lv_iconst (v := 0) hx hb dX12_allows_120 (by decide) ?_
            exact maI hQ hx hb hr hlk hP hS ⟨hT, FA, FF, (by (try dsimp only); (try simp only [ti_0]); (first | omega | (intro h9; omega) | (simp; done) | (refine ⟨?_, ?_⟩ <;> intros <;> first | trivial | omega) | (refine ⟨?_, ?_, ?_⟩ <;> intros <;> first | trivial | omega)))⟩ dX12_allows_121
          · skip
            refine lv_iload hx hb dX12_allows_114 (lv_at hl 0 rfl) ?_
            refine lv_iconst (v := 5) hx hb dX12_allows_116 (by decide) ?_
            refine bi_ne (tgt := 122) hx hb rfl ti_5 dX12_allows_117 (by decide) (fun c_66 => ?_) (fun c_66 => ?_)
            · skip
              refine lv_iload hx hb dX12_allows_122 (lv_at hl 0 rfl) ?_
              refine lv_iconst (v := (-1)) hx hb dX12_allows_124 (by decide) ?_
              refine bi_ne (tgt := 154) hx hb rfl ti_m1 dX12_allows_125 (by decide) (fun c_67 => ?_) (fun c_67 => ?_)
              · skip
                refine lv_iload hx hb dX12_allows_154 (lv_at hl 6 rfl) ?_
                refine lv_iload hx hb dX12_allows_156 (lv_at hl 0 rfl) ?_
                refine bi_eq (tgt := 173) hx hb rfl rfl dX12_allows_158 (by decide) (fun c_68 => ?_) (fun c_68 => ?_)
                · skip
                  refine lv_iload hx hb dX12_allows_173 (lv_at hl 5 rfl) ?_
                  refine bz_eq (tgt := 204) hx hb rfl dX12_allows_175 (by decide) (fun c_69 => ?_) (fun c_69 => ?_)
                  · skip
                    refine lv_iconst (v := 0) hx hb dX12_allows_204 (by decide) ?_
                    exact maI hQ hx hb hr hlk hP hS ⟨hT, FA, FF, (by (try dsimp only); (try simp only [ti_0]); (first | omega | (intro h9; omega) | (simp; done) | (refine ⟨?_, ?_⟩ <;> intros <;> first | trivial | omega) | (refine ⟨?_, ?_, ?_⟩ <;> intros <;> first | trivial | omega)))⟩ dX12_allows_205
                  · skip
                    refine lv_iload hx hb dX12_allows_178 (lv_at hl 6 rfl) ?_
                    refine lv_iload hx hb dX12_allows_180 (lv_at hl 0 rfl) ?_
                    refine bi_eq (tgt := 204) hx hb rfl rfl dX12_allows_182 (by decide) (fun c_70 => ?_) (fun c_70 => ?_)
                    · skip
                      refine lv_iconst (v := 0) hx hb dX12_allows_204 (by decide) ?_
                      exact maI hQ hx hb hr hlk hP hS ⟨hT, FA, FF, (by (try dsimp only); (try simp only [ti_0]); (first | omega | (intro h9; omega) | (simp; done) | (refine ⟨?_, ?_⟩ <;> intros <;> first | trivial | omega) | (refine ⟨?_, ?_, ?_⟩ <;> intros <;> first | trivial | omega)))⟩ dX12_allows_205
                    · skip
                      refine lv_iload hx hb dX12_allows_185 (lv_at hl 6 rfl) ?_
                      refine lv_iconst (v := 4) hx hb dX12_allows_187 (by decide) ?_
                      refine bi_eq (tgt := 204) hx hb rfl ti_4 dX12_allows_188 (by decide) (fun c_71 => ?_) (fun c_71 => ?_)
                      · skip
                        refine lv_iconst (v := 0) hx hb dX12_allows_204 (by decide) ?_
                        exact maI hQ hx hb hr hlk hP hS ⟨hT, FA, FF, (by (try dsimp only); (try simp only [ti_0]); (first | omega | (intro h9; omega) | (simp; done) | (refine ⟨?_, ?_⟩ <;> intros <;> first | trivial | omega) | (refine ⟨?_, ?_, ?_⟩ <;> intros <;> first | trivial | omega)))⟩ dX12_allows_205
                      · skip
                        refine lv_aload_n hx hb dX12_allows_191 rfl (lv_at hl 1 rfl) ?_
                        refine lv_iload_n hx hb dX12_allows_192 rfl (lv_at hl 2 rfl) ?_
                        refine lv_iconst (v := 4) hx hb dX12_allows_193 (by decide) ?_
                        refine zcS (zrV (As := [.int x1, .int 4]) (b := a0) (rest := []) C hs hP hS (c_X12_has l D K hM f_44 A_44 hT a0 ha0 hk0 x1 4 hp0) m_X12_has wm_X12_133 (zrecv hs hP ha0 (zF_11 hk0) rfl) ⟨by decide, by decide⟩ hl.1 (Nat.le_of_ble_eq_true rfl) dX12_allows_194) (fun x_72 p_72 => ?_)
                        refine bz_eq (tgt := 204) hx hb rfl dX12_allows_197 (by decide) (fun c_73 => ?_) (fun c_73 => ?_)
                        · skip
                          refine lv_iconst (v := 0) hx hb dX12_allows_204 (by decide) ?_
                          exact maI hQ hx hb hr hlk hP hS ⟨hT, FA, FF, (by (try dsimp only); (try simp only [ti_0]); (first | omega | (intro h9; omega) | (simp; done) | (refine ⟨?_, ?_⟩ <;> intros <;> first | trivial | omega) | (refine ⟨?_, ?_, ?_⟩ <;> intros <;> first | trivial | omega)))⟩ dX12_allows_205
                        · skip
                          refine lv_iconst (v := 2) hx hb dX12_allows_200 (by decide) ?_
                          refine lv_goto (tgt := 205) hx hb dX12_allows_201 (by decide) ?_
                          exact maI hQ hx hb hr hlk hP hS ⟨hT, FA, FF, (by (try dsimp only); (try simp only [ti_2]); (first | omega | (intro h9; omega) | (simp; done) | (refine ⟨?_, ?_⟩ <;> intros <;> first | trivial | omega) | (refine ⟨?_, ?_, ?_⟩ <;> intros <;> first | trivial | omega)))⟩ dX12_allows_205
                · skip
                  refine lv_aload_n hx hb dX12_allows_161 rfl (lv_at hl 1 rfl) ?_
                  refine lv_iload_n hx hb dX12_allows_162 rfl (lv_at hl 2 rfl) ?_
                  refine lv_iload hx hb dX12_allows_163 (lv_at hl 0 rfl) ?_
                  refine zcS (zrV (As := [.int x1, .int y_62]) (b := a0) (rest := []) C hs hP hS (c_X12_has l D K hM f_44 A_44 hT a0 ha0 hk0 x1 y_62 hp0) m_X12_has wm_X12_133 (zrecv hs hP ha0 (zF_11 hk0) rfl) ⟨by decide, by decide⟩ hl.1 (Nat.le_of_ble_eq_true rfl) dX12_allows_165) (fun x_74 p_74 => ?_)
                  refine bz_eq (tgt := 173) hx hb rfl dX12_allows_168 (by decide) (fun c_75 => ?_) (fun c_75 => ?_)
                  · skip
                    refine lv_iload hx hb dX12_allows_173 (lv_at hl 5 rfl) ?_
                    refine bz_eq (tgt := 204) hx hb rfl dX12_allows_175 (by decide) (fun c_76 => ?_) (fun c_76 => ?_)
                    · skip
                      refine lv_iconst (v := 0) hx hb dX12_allows_204 (by decide) ?_
                      exact maI hQ hx hb hr hlk hP hS ⟨hT, FA, FF, (by (try dsimp only); (try simp only [ti_0]); (first | omega | (intro h9; omega) | (simp; done) | (refine ⟨?_, ?_⟩ <;> intros <;> first | trivial | omega) | (refine ⟨?_, ?_, ?_⟩ <;> intros <;> first | trivial | omega)))⟩ dX12_allows_205
                    · skip
                      refine lv_iload hx hb dX12_allows_178 (lv_at hl 6 rfl) ?_
                      refine lv_iload hx hb dX12_allows_180 (lv_at hl 0 rfl) ?_
                      refine bi_eq (tgt := 204) hx hb rfl rfl dX12_allows_182 (by decide) (fun c_77 => ?_) (fun c_77 => ?_)
                      · skip
                        refine lv_iconst (v := 0) hx hb dX12_allows_204 (by decide) ?_
                        exact maI hQ hx hb hr hlk hP hS ⟨hT, FA, FF, (by (try dsimp only); (try simp only [ti_0]); (first | omega | (intro h9; omega) | (simp; done) | (refine ⟨?_, ?_⟩ <;> intros <;> first | trivial | omega) | (refine ⟨?_, ?_, ?_⟩ <;> intros <;> first | trivial | omega)))⟩ dX12_allows_205
                      · skip
                        refine lv_iload hx hb dX12_allows_185 (lv_at hl 6 rfl) ?_
                        refine lv_iconst (v := 4) hx hb dX12_allows_187 (by decide) ?_
                        refine bi_eq (tgt := 204) hx hb rfl ti_4 dX12_allows_188 (by decide) (fun c_78 => ?_) (fun c_78 => ?_)
                        · skip
                          refine lv_iconst (v := 0) hx hb dX12_allows_204 (by decide) ?_
                          exact maI hQ hx hb hr hlk hP hS ⟨hT, FA, FF, (by (try dsimp only); (try simp only [ti_0]); (first | omega | (intro h9; omega) | (simp; done) | (refine ⟨?_, ?_⟩ <;> intros <;> first | trivial | omega) | (refine ⟨?_, ?_, ?_⟩ <;> intros <;> first | trivial | omega)))⟩ dX12_allows_205
                        · skip
                          refine lv_aload_n hx hb dX12_allows_191 rfl (lv_at hl 1 rfl) ?_
                          refine lv_iload_n hx hb dX12_allows_192 rfl (lv_at hl 2 rfl) ?_
                          refine lv_iconst (v := 4) hx hb dX12_allows_193 (by decide) ?_
                          refine zcS (zrV (As := [.int x1, .int 4]) (b := a0) (rest := []) C hs hP hS (c_X12_has l D K hM f_44 A_44 hT a0 ha0 hk0 x1 4 hp0) m_X12_has wm_X12_133 (zrecv hs hP ha0 (zF_11 hk0) rfl) ⟨by decide, by decide⟩ hl.1 (Nat.le_of_ble_eq_true rfl) dX12_allows_194) (fun x_79 p_79 => ?_)
                          refine bz_eq (tgt := 204) hx hb rfl dX12_allows_197 (by decide) (fun c_80 => ?_) (fun c_80 => ?_)
                          · skip
                            refine lv_iconst (v := 0) hx hb dX12_allows_204 (by decide) ?_
                            exact maI hQ hx hb hr hlk hP hS ⟨hT, FA, FF, (by (try dsimp only); (try simp only [ti_0]); (first | omega | (intro h9; omega) | (simp; done) | (refine ⟨?_, ?_⟩ <;> intros <;> first | trivial | omega) | (refine ⟨?_, ?_, ?_⟩ <;> intros <;> first | trivial | omega)))⟩ dX12_allows_205
                          · skip
                            refine lv_iconst (v := 2) hx hb dX12_allows_200 (by decide) ?_
                            refine lv_goto (tgt := 205) hx hb dX12_allows_201 (by decide) ?_
                            exact maI hQ hx hb hr hlk hP hS ⟨hT, FA, FF, (by (try dsimp only); (try simp only [ti_2]); (first | omega | (intro h9; omega) | (simp; done) | (refine ⟨?_, ?_⟩ <;> intros <;> first | trivial | omega) | (refine ⟨?_, ?_, ?_⟩ <;> intros <;> first | trivial | omega)))⟩ dX12_allows_205
                  · skip
                    refine lv_iconst (v := 1) hx hb dX12_allows_171 (by decide) ?_
                    exact maI hQ hx hb hr hlk hP hS ⟨hT, FA, FF, (by (try dsimp only); (try simp only [ti_1]); (first | omega | (intro h9; omega) | (simp; done) | (refine ⟨?_, ?_⟩ <;> intros <;> first | trivial | omega) | (refine ⟨?_, ?_, ?_⟩ <;> intros <;> first | trivial | omega)))⟩ dX12_allows_172
              · skip
                refine lv_iload_n hx hb dX12_allows_128 rfl (lv_at hl 4 rfl) ?_
                refine lv_iconst (v := 2) hx hb dX12_allows_129 (by decide) ?_
                refine bi_ne (tgt := 152) hx hb rfl ti_2 dX12_allows_130 (by decide) (fun c_81 => ?_) (fun c_81 => ?_)
                · skip
                  refine lv_iconst (v := 0) hx hb dX12_allows_152 (by decide) ?_
                  exact maI hQ hx hb hr hlk hP hS ⟨hT, FA, FF, (by (try dsimp only); (try simp only [ti_0]); (first | omega | (intro h9; omega) | (simp; done) | (refine ⟨?_, ?_⟩ <;> intros <;> first | trivial | omega) | (refine ⟨?_, ?_, ?_⟩ <;> intros <;> first | trivial | omega)))⟩ dX12_allows_153
                · skip
                  refine lv_iload hx hb dX12_allows_133 (lv_at hl 6 rfl) ?_
                  refine lv_iconst (v := 3) hx hb dX12_allows_135 (by decide) ?_
                  refine bi_ne (tgt := 152) hx hb rfl ti_3 dX12_allows_136 (by decide) (fun c_82 => ?_) (fun c_82 => ?_)
                  · skip
                    refine lv_iconst (v := 0) hx hb dX12_allows_152 (by decide) ?_
                    exact maI hQ hx hb hr hlk hP hS ⟨hT, FA, FF, (by (try dsimp only); (try simp only [ti_0]); (first | omega | (intro h9; omega) | (simp; done) | (refine ⟨?_, ?_⟩ <;> intros <;> first | trivial | omega) | (refine ⟨?_, ?_, ?_⟩ <;> intros <;> first | trivial | omega)))⟩ dX12_allows_153
                  · skip
                    refine lv_aload_n hx hb dX12_allows_139 rfl (lv_at hl 1 rfl) ?_
                    refine lv_iload_n hx hb dX12_allows_140 rfl (lv_at hl 2 rfl) ?_
                    refine lv_iconst (v := 3) hx hb dX12_allows_141 (by decide) ?_
                    refine zcS (zrV (As := [.int x1, .int 3]) (b := a0) (rest := []) C hs hP hS (c_X12_hasOther l D K hM f_44 A_44 hT a0 ha0 hk0 x1 3 hp0) m_X12_hasOther wm_X12_130 (zrecv hs hP ha0 (zF_11 hk0) rfl) ⟨by decide, by decide⟩ hl.1 (Nat.le_of_ble_eq_true rfl) dX12_allows_142) (fun x_83 p_83 => ?_)
                    refine bz_eq (tgt := 152) hx hb rfl dX12_allows_145 (by decide) (fun c_84 => ?_) (fun c_84 => ?_)
                    · skip
                      refine lv_iconst (v := 0) hx hb dX12_allows_152 (by decide) ?_
                      exact maI hQ hx hb hr hlk hP hS ⟨hT, FA, FF, (by (try dsimp only); (try simp only [ti_0]); (first | omega | (intro h9; omega) | (simp; done) | (refine ⟨?_, ?_⟩ <;> intros <;> first | trivial | omega) | (refine ⟨?_, ?_, ?_⟩ <;> intros <;> first | trivial | omega)))⟩ dX12_allows_153
                    · skip
                      refine lv_iconst (v := 3) hx hb dX12_allows_148 (by decide) ?_
                      refine lv_goto (tgt := 153) hx hb dX12_allows_149 (by decide) ?_
                      exact maI hQ hx hb hr hlk hP hS ⟨hT, FA, FF, (by (try dsimp only); (try simp only [ti_3]); (first | omega | (intro h9; omega) | (simp; done) | (refine ⟨?_, ?_⟩ <;> intros <;> first | trivial | omega) | (refine ⟨?_, ?_, ?_⟩ <;> intros <;> first | trivial | omega)))⟩ dX12_allows_153
            · skip
              refine lv_iconst (v := 0) hx hb dX12_allows_120 (by decide) ?_
              exact maI hQ hx hb hr hlk hP hS ⟨hT, FA, FF, (by (try dsimp only); (try simp only [ti_0]); (first | omega | (intro h9; omega) | (simp; done) | (refine ⟨?_, ?_⟩ <;> intros <;> first | trivial | omega) | (refine ⟨?_, ?_, ?_⟩ <;> intros <;> first | trivial | omega)))⟩ dX12_allows_121
        refine bz_ne (tgt := 95) hx hb rfl dX12_allows_88 (by decide) (fun c_52 => ?_) (fun c_52 => ?_)
        · skip
          refine lv_aload_n hx hb dX12_allows_95 rfl (lv_at hl 1 rfl) ?_
          refine lv_iload_n hx hb dX12_allows_96 rfl (lv_at hl 2 rfl) ?_
          refine lv_aload_n hx hb dX12_allows_97 rfl (lv_at hl 1 rfl) ?_
          refine mg_15 C hs hP ha0 hk0 wf_X12_39 dX12_allows_98 ?_
          have hf_85 := hO.r (j := 15) ha0 hk0 (rfl : zX 11 15 = some (55, 4))
          refine lv_iconst (v := 0) hx hb dX12_allows_101 (by decide) ?_
          have hin_86 : vp_in 0 (zn K (zr K a0 15)) := vp_in_iff.mpr (by rw [ti_0, (hf_85.2.2 (by decide))]; decide)
          refine mld_55 C hs hP hf_85.1 hf_85.2.1 hin_86 dX12_allows_102 ?_
          have ep_87 : (0 : Int32).toNatClampNeg = 0 := by decide +kernel
          rw [ep_87]
          have ev_88 : A_44 55 0 = A 55 0 := by rw [hA_44 55 (by decide), FA_41 55 (by decide)]
          have tv_89 := ra_55 (i := 0) hT (by rw [ti_0]; decide) (by rw [ti_0]; decide)
          rw [ep_87] at tv_89
          rw [ev_88] at tv_89
          rw [ev_88]
          have g_90 := z_rng (A 55 0)
          have hq_91 : 0 ≤ (A 55 0).toInt ∧ (A 55 0).toInt ≤ 59 := by first | assumption | omega | (intros; omega)
          refine zcS (zrV (As := [.int x1, .int (A 55 0)]) (b := a0) (rest := []) C hs hP hS (c_X12_colour l D K hM f_44 A_44 hT a0 ha0 hk0 x1 (A 55 0) hp0 hq_91) m_X12_colour wm_X12_120 (zrecv hs hP ha0 (zF_11 hk0) rfl) ⟨by decide, by decide⟩ hl.1 (Nat.le_of_ble_eq_true rfl) dX12_allows_103) (fun x_92 p_92 => ?_)
          have pp_92 : x_92 = mcol (A_44 40) x1 (A 55 0) := p_92
          have ev_93 : A_44 40 = A 40 := by rw [hA_44 40 (by decide), FA_41 40 (by decide)]
          rw [ev_93] at pp_92
          have pq_92 := congrArg Int32.toInt pp_92
          exact J_106_63 x_92 _ (lv_sub hl [1, 2, 3, 4, 5, 0] rfl)
        · skip
          refine lv_iconst (v := (-1)) hx hb dX12_allows_91 (by decide) ?_
          refine lv_goto (tgt := 106) hx hb dX12_allows_92 (by decide) ?_
          exact J_106_63 (-1) _ (lv_sub hl [1, 2, 3, 4, 5, 0] rfl)
      refine bz_ne (tgt := 54) hx hb rfl dX12_allows_46 (by decide) (fun c_22 => ?_) (fun c_22 => ?_)
      · skip
        refine lv_aload_n hx hb dX12_allows_54 rfl (lv_at hl 0 rfl) ?_
        refine lv_iload hx hb dX12_allows_55 (lv_at hl 4 rfl) ?_
        have J_67_96 : ∀ (y_95 : Int32) (ls : Array Slot), lv_has ls 7 [(0, .ref a0), (1, .int x1), (2, .int x2), (3, .int (A 40 (x1.toInt + 3).toNat)), (4, .int y_9)] → W p l e (rmd 2) s m args below meth c H locs 0 0 Q (F0 m 67 ls [.int y_95, .ref a0]) := by
          intro y_95 ls hl
          have g_98 := z_rng y_95
          have hq_99 : (f_20 11).toInt ≤ 2000000000 := by first | assumption | omega | (intros; omega)
          refine mcV (zrV (As := [.int y_95]) (b := a0) (rest := []) C hs hP hS (c_X12_body l D K hM f_20 A_20 hT a0 ha0 hk0 y_95 hq_99) m_X12_body wm_X12_124 (zrecv hs hP ha0 (zF_11 hk0) rfl) ⟨by decide, by decide⟩ hl.1 (Nat.le_of_ble_eq_true rfl) dX12_allows_67) hS (fun f_100 A_100 H locs p_100 hP hS => ?_)
          obtain ⟨hT, hA_100, hF_100, pp_100⟩ := p_100
          have pp_100 : (f_20 11).toInt ≤ (f_100 11).toInt ∧ (f_100 11).toInt ≤ (f_20 11).toInt + 1 ∧ ((f_20 12).toInt ≠ 0 → (f_100 11).toInt = (f_20 11).toInt) := pp_100
          have ev_101 : f_20 12 = f 12 := by rw [FF_20 12 (by decide)]
          rw [ev_101] at pp_100
          have FA := frA FA hA_100 (by decide)
          have FF := frF FF hF_100 (by decide)
          exact J_70_40 f_100 A_100 _ _ _ (by omega) FA FF hT hP hS (lv_sub hl [0, 1, 2, 3, 4] rfl)
        refine bz_eq (tgt := 65) hx hb rfl dX12_allows_57 (by decide) (fun c_94 => ?_) (fun c_94 => ?_)
        · skip
          refine lv_bipush (v := 23) hx hb dX12_allows_65 (by decide) ?_
          exact J_67_96 23 _ (lv_sub hl [0, 1, 2, 3, 4] rfl)
        · skip
          refine lv_bipush (v := 22) hx hb dX12_allows_60 (by decide) ?_
          refine lv_goto (tgt := 67) hx hb dX12_allows_62 (by decide) ?_
          exact J_67_96 22 _ (lv_sub hl [0, 1, 2, 3, 4] rfl)
      · skip
        refine lv_iload_n hx hb dX12_allows_49 rfl (lv_at hl 3 rfl) ?_
        refine lv_iconst (v := 2) hx hb dX12_allows_50 (by decide) ?_
        refine bi_ne (tgt := 70) hx hb rfl ti_2 dX12_allows_51 (by decide) (fun c_102 => ?_) (fun c_102 => ?_)
        · skip
          exact J_70_40 f_20 A_20 _ _ _ (by omega) FA FF hT hP hS (lv_sub hl [0, 1, 2, 3, 4] rfl)
        · skip
          refine lv_aload_n hx hb dX12_allows_54 rfl (lv_at hl 0 rfl) ?_
          refine lv_iload hx hb dX12_allows_55 (lv_at hl 4 rfl) ?_
          have J_67_105 : ∀ (y_104 : Int32) (ls : Array Slot), lv_has ls 7 [(0, .ref a0), (1, .int x1), (2, .int x2), (3, .int (A 40 (x1.toInt + 3).toNat)), (4, .int y_9)] → W p l e (rmd 2) s m args below meth c H locs 0 0 Q (F0 m 67 ls [.int y_104, .ref a0]) := by
            intro y_104 ls hl
            have g_107 := z_rng y_104
            have hq_108 : (f_20 11).toInt ≤ 2000000000 := by first | assumption | omega | (intros; omega)
            refine mcV (zrV (As := [.int y_104]) (b := a0) (rest := []) C hs hP hS (c_X12_body l D K hM f_20 A_20 hT a0 ha0 hk0 y_104 hq_108) m_X12_body wm_X12_124 (zrecv hs hP ha0 (zF_11 hk0) rfl) ⟨by decide, by decide⟩ hl.1 (Nat.le_of_ble_eq_true rfl) dX12_allows_67) hS (fun f_109 A_109 H locs p_109 hP hS => ?_)
            obtain ⟨hT, hA_109, hF_109, pp_109⟩ := p_109
            have pp_109 : (f_20 11).toInt ≤ (f_109 11).toInt ∧ (f_109 11).toInt ≤ (f_20 11).toInt + 1 ∧ ((f_20 12).toInt ≠ 0 → (f_109 11).toInt = (f_20 11).toInt) := pp_109
            have ev_110 : f_20 12 = f 12 := by rw [FF_20 12 (by decide)]
            rw [ev_110] at pp_109
            have FA := frA FA hA_109 (by decide)
            have FF := frF FF hF_109 (by decide)
            exact J_70_40 f_109 A_109 _ _ _ (by omega) FA FF hT hP hS (lv_sub hl [0, 1, 2, 3, 4] rfl)
          refine bz_eq (tgt := 65) hx hb rfl dX12_allows_57 (by decide) (fun c_103 => ?_) (fun c_103 => ?_)
          · skip
            refine lv_bipush (v := 23) hx hb dX12_allows_65 (by decide) ?_
            exact J_67_105 23 _ (lv_sub hl [0, 1, 2, 3, 4] rfl)
          · skip
            refine lv_bipush (v := 22) hx hb dX12_allows_60 (by decide) ?_
            refine lv_goto (tgt := 67) hx hb dX12_allows_62 (by decide) ?_
            exact J_67_105 22 _ (lv_sub hl [0, 1, 2, 3, 4] rfl)
    refine bi_ne (tgt := 44) hx hb rfl ti_4 dX12_allows_35 (by decide) (fun c_16 => ?_) (fun c_16 => ?_)
    · skip
      exact J_44_19 f A _ _ _ (by omega) FA FF hT hP hS (lv_sub hl [1, 2, 3, 4, 0] rfl)
    · skip
      refine lv_aload_n hx hb dX12_allows_38 rfl (lv_at hl 1 rfl) ?_
      refine lv_bipush (v := 24) hx hb dX12_allows_39 (by decide) ?_
      have hq_111 : (f 11).toInt ≤ 2000000000 := by (try simp only [ti_24]); first | assumption | omega | (intros; omega)
      refine mcV (zrV (As := [.int 24]) (b := a0) (rest := []) C hs hP hS (c_X12_body l D K hM f A hT a0 ha0 hk0 24 hq_111) m_X12_body wm_X12_124 (zrecv hs hP ha0 (zF_11 hk0) rfl) ⟨by decide, by decide⟩ hl.1 (Nat.le_of_ble_eq_true rfl) dX12_allows_41) hS (fun f_112 A_112 H locs p_112 hP hS => ?_)
      obtain ⟨hT, hA_112, hF_112, pp_112⟩ := p_112
      have pp_112 : (f 11).toInt ≤ (f_112 11).toInt ∧ (f_112 11).toInt ≤ (f 11).toInt + 1 ∧ ((f 12).toInt ≠ 0 → (f_112 11).toInt = (f 11).toInt) := pp_112
      try simp only [ti_24] at pp_112
      have FA := frA FA hA_112 (by decide)
      have FF := frF FF hF_112 (by decide)
      exact J_44_19 f_112 A_112 _ _ _ (by omega) FA FF hT hP hS (lv_sub hl [1, 2, 3, 4, 0] rfl)
  refine bi_eq (tgt := 19) hx hb rfl ti_1 dX12_allows_11 (by decide) (fun c_7 => ?_) (fun c_7 => ?_)
  · skip
    refine lv_iconst (v := 1) hx hb dX12_allows_19 (by decide) ?_
    refine lv_goto (tgt := 24) hx hb dX12_allows_20 (by decide) ?_
    exact J_24_10 1 _ (Or.inr rfl) (lv_sub hl [1, 2, 3, 0] rfl)
  · skip
    refine lv_iload_n hx hb dX12_allows_14 rfl (lv_at hl 0 rfl) ?_
    refine lv_iconst (v := 3) hx hb dX12_allows_15 (by decide) ?_
    refine bi_ne (tgt := 23) hx hb rfl ti_3 dX12_allows_16 (by decide) (fun c_113 => ?_) (fun c_113 => ?_)
    · skip
      refine lv_iconst (v := 0) hx hb dX12_allows_23 (by decide) ?_
      exact J_24_10 0 _ (Or.inl rfl) (lv_sub hl [1, 2, 3, 0] rfl)
    · skip
      refine lv_iconst (v := 1) hx hb dX12_allows_19 (by decide) ?_
      refine lv_goto (tgt := 24) hx hb dX12_allows_20 (by decide) ?_
      exact J_24_10 1 _ (Or.inr rfl) (lv_sub hl [1, 2, 3, 0] rfl)
set_option maxHeartbeats 4000000 in
set_option maxRecDepth 100000 in
theorem c_X12_scorePlainly (l : Launch) (D : va_G) (K : zK) (hM : mK K) (f : Nat → Int32) (A : Nat → Nat → Int32) (hT : mT f A) (a0 : Nat) (ha0 : a0 ∈ zl K) (hk0 : zk K a0 = 11) (x1 : Int32) (x2 : Int32) (hp0 : zRow x1.toInt) (hp1 : (f 11).toInt ≤ 1990000000) : Met l yX12_scorePlainly (zc yX12_scorePlainly cX12_scorePlainly 5 (some .int)) (rmd 1) (va_Pc [.ref a0, .int x1, .int x2] (zB D K (mV K f A))) (mQi D K (fun r f' A' => mT f' A' ∧ (∀ k, k ∉ ([50] : List Nat) → A' k = A k) ∧ (∀ k, k ∉ ([11] : List Nat) → f' k = f k) ∧ (f 11).toInt ≤ (f' 11).toInt ∧ (f' 11).toInt ≤ (f 11).toInt + 2 ∧ ((f 12).toInt ≠ 0 → (f' 11).toInt = (f 11).toInt))) 0 0 (zA K) := by
  refine zin (by decide) (Nat.le_of_ble_eq_true rfl) ?_
  intro p e s m args below meth c ls Q hQ C hr hlk hP hs hl
  have C : CallFix p m c cX12_scorePlainly 5 s args zw RX12 := C
  obtain ⟨hx, hb, hml, hown, hts⟩ := id C
  have hO := hM.1
  have hS : va_S (zA K) s.heap s.heap [] := va_S.rf
  have FA : ∀ k, k ∉ ([50] : List Nat) → A k = A k := fun _ _ => rfl
  have FF : ∀ k, k ∉ ([11] : List Nat) → f k = f k := fun _ _ => rfl
  have hl : lv_has ls 5 [(0, .ref a0), (1, .int x1), (2, .int x2)] := hl
  have hb0 := hp0.lin
  refine lv_iload_n hx hb dX12_scorePlainly_0 rfl (lv_at hl 2 rfl) ?_
  have J_10_4 : ∀ (f_5 : Nat → Int32) (A_5 : Nat → Nat → Int32) (H : Heap) (locs : List Loc) (ls : Array Slot), ((f 11).toInt ≤ (f_5 11).toInt ∧ (f_5 11).toInt ≤ (f 11).toInt + 1 ∧ ((f 12).toInt ≠ 0 → (f_5 11).toInt = (f 11).toInt)) → (∀ k, k ∉ ([50] : List Nat) → A_5 k = A k) → (∀ k, k ∉ ([11] : List Nat) → f_5 k = f k) → mT f_5 A_5 → va_P D vwCl (zW K (mV K f_5 A_5)) H → va_S (zA K) s.heap H locs → lv_has ls 5 [(0, .ref a0), (1, .int x1), (2, .int x2)] → W p l e (rmd 1) s m args below meth c H locs 0 0 Q (F0 m 10 ls []) := by
    intro f_5 A_5 H locs ls iv_5_0 FA_5 FF_5 hT hP hS hl
    have FA := FA_5
    have FF := FF_5
    refine lv_aload_n hx hb dX12_scorePlainly_10 rfl (lv_at hl 0 rfl) ?_
    refine lv_bipush (v := 41) hx hb dX12_scorePlainly_11 (by decide) ?_
    have hq_7 : (f_5 11).toInt ≤ 2000000000 := by (try simp only [ti_41]); first | assumption | omega | (intros; omega)
    refine mcV (zrV (As := [.int 41]) (b := a0) (rest := []) C hs hP hS (c_X12_body l D K hM f_5 A_5 hT a0 ha0 hk0 41 hq_7) m_X12_body wm_X12_124 (zrecv hs hP ha0 (zF_11 hk0) rfl) ⟨by decide, by decide⟩ hl.1 (Nat.le_of_ble_eq_true rfl) dX12_scorePlainly_13) hS (fun f_8 A_8 H locs p_8 hP hS => ?_)
    obtain ⟨hT, hA_8, hF_8, pp_8⟩ := p_8
    have pp_8 : (f_5 11).toInt ≤ (f_8 11).toInt ∧ (f_8 11).toInt ≤ (f_5 11).toInt + 1 ∧ ((f_5 12).toInt ≠ 0 → (f_8 11).toInt = (f_5 11).toInt) := pp_8
    have ev_9 : f_5 12 = f 12 := by rw [FF_5 12 (by decide)]
    rw [ev_9] at pp_8
    try simp only [ti_41] at pp_8
    have FA := frA FA hA_8 (by decide)
    have FF := frF FF hF_8 (by decide)
    refine lv_iconst (v := 1) hx hb dX12_scorePlainly_16 (by decide) ?_
    refine lv_istore_n (lv' := [(3, .int 1), (0, .ref a0), (1, .int x1), (2, .int x2)]) hx hb dX12_scorePlainly_17 rfl hl (by decide) rfl (fun ls hl => ?_)
    refine lv_iconst (v := 0) hx hb dX12_scorePlainly_18 (by decide) ?_
    refine lv_istore (lv' := [(4, .int 0), (3, .int 1), (0, .ref a0), (1, .int x1), (2, .int x2)]) hx hb dX12_scorePlainly_19 hl (by decide) rfl (fun ls hl => ?_)
    have L_21_12 : ∀ (n_12 : Nat) (y_10 : Int32) (y_11 : Int32) (ls : Array Slot), (2147483648 - y_10.toInt).toNat < n_12 → 0 ≤ y_10.toInt → lv_has ls 5 [(4, .int y_10), (3, .int y_11), (0, .ref a0), (1, .int x1), (2, .int x2)] → W p l e (rmd 1) s m args below meth c H locs 0 0 Q (F0 m 21 ls []) := by
      intro n_12
      induction n_12 with
      | zero => intro y_10 y_11 ls hm_12; exact absurd hm_12 (Nat.not_lt_zero _)
      | succ n_12 ih_12 =>
        intro y_10 y_11 ls hm_12 iv_13_0 hl
        refine lv_iload hx hb dX12_scorePlainly_21 (lv_at hl 0 rfl) ?_
        refine lv_aload_n hx hb dX12_scorePlainly_23 rfl (lv_at hl 2 rfl) ?_
        refine mg_16 C hs hP ha0 hk0 wf_X12_127 dX12_scorePlainly_24 ?_
        have ev_14 : f_8 16 = f 16 := by rw [hF_8 16 (by decide), FF_5 16 (by decide)]
        rw [ev_14]
        have tf_15 : 0 ≤ (f 16).toInt ∧ (f 16).toInt ≤ 4 := by rw [← ev_14]; exact hT.1 16
        refine bi_ge (tgt := 64) hx hb rfl rfl dX12_scorePlainly_27 (by decide) (fun c_16 => ?_) (fun c_16 => ?_)
        · skip
          refine lv_iload_n hx hb dX12_scorePlainly_64 rfl (lv_at hl 1 rfl) ?_
          exact maI hQ hx hb hr hlk hP hS ⟨hT, FA, FF, (by (try dsimp only); (first | omega | (intro h9; omega) | (simp; done) | (refine ⟨?_, ?_⟩ <;> intros <;> first | trivial | omega) | (refine ⟨?_, ?_, ?_⟩ <;> intros <;> first | trivial | omega)))⟩ dX12_scorePlainly_65
        · skip
          refine lv_iload_n hx hb dX12_scorePlainly_30 rfl (lv_at hl 4 rfl) ?_
          refine bz_eq (tgt := 64) hx hb rfl dX12_scorePlainly_31 (by decide) (fun c_17 => ?_) (fun c_17 => ?_)
          · skip
            refine lv_iload_n hx hb dX12_scorePlainly_64 rfl (lv_at hl 1 rfl) ?_
            exact maI hQ hx hb hr hlk hP hS ⟨hT, FA, FF, (by (try dsimp only); (first | omega | (intro h9; omega) | (simp; done) | (refine ⟨?_, ?_⟩ <;> intros <;> first | trivial | omega) | (refine ⟨?_, ?_, ?_⟩ <;> intros <;> first | trivial | omega)))⟩ dX12_scorePlainly_65
          · skip
            refine lv_iload_n hx hb dX12_scorePlainly_34 rfl (lv_at hl 1 rfl) ?_
            refine lv_aload_n hx hb dX12_scorePlainly_35 rfl (lv_at hl 2 rfl) ?_
            refine lv_iload_n hx hb dX12_scorePlainly_36 rfl (lv_at hl 3 rfl) ?_
            refine lv_aload_n hx hb dX12_scorePlainly_37 rfl (lv_at hl 2 rfl) ?_
            refine mg_15 C hs hP ha0 hk0 wf_X12_39 dX12_scorePlainly_38 ?_
            have hf_18 := hO.r (j := 15) ha0 hk0 (rfl : zX 11 15 = some (55, 4))
            refine lv_iload hx hb dX12_scorePlainly_41 (lv_at hl 0 rfl) ?_
            have g_20 := z_rng y_10
            have hin_19 : vp_in y_10 (zn K (zr K a0 15)) := vp_in_iff.mpr (by rw [(hf_18.2.2 (by decide))]; refine ⟨?_, ?_⟩ <;> omega)
            refine mld_55 C hs hP hf_18.1 hf_18.2.1 hin_19 dX12_scorePlainly_43 ?_
            have ev_21 : A_8 55 y_10.toNatClampNeg = A 55 y_10.toNatClampNeg := by rw [hA_8 55 (by decide), FA_5 55 (by decide)]
            have tv_22 := ra_55 hT (vp_in_iff.mp hin_19).1 (by have h7 := (vp_in_iff.mp hin_19).2; rw [(hf_18.2.2 (by decide))] at h7; exact h7)
            rw [ev_21] at tv_22
            rw [ev_21]
            have g_23 := z_rng x1
            have g_24 := z_rng (A 55 y_10.toNatClampNeg)
            have hq_25 : 0 ≤ (A 55 y_10.toNatClampNeg).toInt ∧ (A 55 y_10.toNatClampNeg).toInt ≤ 59 := by first | assumption | omega | (intros; omega)
            refine zcS (zrV (As := [.int x1, .int (A 55 y_10.toNatClampNeg)]) (b := a0) (rest := [.int y_11]) C hs hP hS (c_X12_colour l D K hM f_8 A_8 hT a0 ha0 hk0 x1 (A 55 y_10.toNatClampNeg) hp0 hq_25) m_X12_colour wm_X12_120 (zrecv hs hP ha0 (zF_11 hk0) rfl) ⟨by decide, by decide⟩ hl.1 (Nat.le_of_ble_eq_true rfl) dX12_scorePlainly_44) (fun x_26 p_26 => ?_)
            have pp_26 : x_26 = mcol (A_8 40) x1 (A 55 y_10.toNatClampNeg) := p_26
            have ev_27 : A_8 40 = A 40 := by rw [hA_8 40 (by decide), FA_5 40 (by decide)]
            rw [ev_27] at pp_26
            have pq_26 := congrArg Int32.toInt pp_26
            refine lv_iconst (v := 4) hx hb dX12_scorePlainly_47 (by decide) ?_
            have J_56_30 : ∀ (y_29 : Int32) (ls : Array Slot), (y_29 = 0 ∨ y_29 = 1) → lv_has ls 5 [(0, .ref a0), (1, .int x1), (2, .int x2), (3, .int y_11), (4, .int y_10)] → W p l e (rmd 1) s m args below meth c H locs 0 0 Q (F0 m 56 ls [.int y_29, .int y_11]) := by
              intro y_29 ls hb_y_29 hl
              refine lv_iadd hx hb dX12_scorePlainly_56 ?_
              refine lv_topi (fun x_32 ex_32 => ?_)
              refine lv_istore_n (lv' := [(3, .int x_32), (0, .ref a0), (1, .int x1), (2, .int x2), (4, .int y_10)]) hx hb dX12_scorePlainly_57 rfl hl (by decide) rfl (fun ls hl => ?_)
              obtain ⟨x_33, ex_33⟩ : ∃ y : Int32, y = y_10 + 1 := ⟨_, rfl⟩
              refine lv_iinc (v := x_33) (lv' := [(4, .int x_33), (3, .int x_32), (0, .ref a0), (1, .int x1), (2, .int x2)]) hx hb dX12_scorePlainly_58 hl (k := 4) rfl (by rw [ex_33]; rfl) (by decide) rfl (fun ls hl => ?_)
              refine lv_goto (tgt := 21) hx hb dX12_scorePlainly_61 (by decide) ?_
              obtain ⟨f_33, l_33, u_33⟩ := z_add ex_33 rfl ti_1
              try replace f_33 : x_33.toInt = y_10.toInt + 1 := by omega
              have g_34 := z_rng (f 16)
              have g_35 := z_rng x2
              exact ih_12 x_33 x_32 _ (by omega) (by omega) (lv_sub hl [0, 1, 2, 3, 4] rfl)
            refine bi_ne (tgt := 55) hx hb rfl ti_4 dX12_scorePlainly_48 (by decide) (fun c_28 => ?_) (fun c_28 => ?_)
            · skip
              refine lv_iconst (v := 0) hx hb dX12_scorePlainly_55 (by decide) ?_
              exact J_56_30 0 _ (Or.inl rfl) (lv_sub hl [2, 3, 4, 1, 0] rfl)
            · skip
              refine lv_iconst (v := 1) hx hb dX12_scorePlainly_51 (by decide) ?_
              refine lv_goto (tgt := 56) hx hb dX12_scorePlainly_52 (by decide) ?_
              exact J_56_30 1 _ (Or.inr rfl) (lv_sub hl [2, 3, 4, 1, 0] rfl)
    exact L_21_12 _ 0 1 _ (Nat.lt_succ_self _) (by (try simp only [ti_0, ti_1]); omega) (lv_sub hl [0, 1, 2, 3, 4] rfl)
  refine bz_eq (tgt := 10) hx hb rfl dX12_scorePlainly_1 (by decide) (fun c_1 => ?_) (fun c_1 => ?_)
  · skip
    exact J_10_4 f A _ _ _ (by omega) FA FF hT hP hS (lv_sub hl [0, 1, 2] rfl)
  · skip
    refine lv_aload_n hx hb dX12_scorePlainly_4 rfl (lv_at hl 0 rfl) ?_
    refine lv_bipush (v := 42) hx hb dX12_scorePlainly_5 (by decide) ?_
    have hq_36 : (f 11).toInt ≤ 2000000000 := by (try simp only [ti_42]); first | assumption | omega | (intros; omega)
    refine mcV (zrV (As := [.int 42]) (b := a0) (rest := []) C hs hP hS (c_X12_body l D K hM f A hT a0 ha0 hk0 42 hq_36) m_X12_body wm_X12_124 (zrecv hs hP ha0 (zF_11 hk0) rfl) ⟨by decide, by decide⟩ hl.1 (Nat.le_of_ble_eq_true rfl) dX12_scorePlainly_7) hS (fun f_37 A_37 H locs p_37 hP hS => ?_)
    obtain ⟨hT, hA_37, hF_37, pp_37⟩ := p_37
    have pp_37 : (f 11).toInt ≤ (f_37 11).toInt ∧ (f_37 11).toInt ≤ (f 11).toInt + 1 ∧ ((f 12).toInt ≠ 0 → (f_37 11).toInt = (f 11).toInt) := pp_37
    try simp only [ti_42] at pp_37
    have FA := frA FA hA_37 (by decide)
    have FF := frF FF hF_37 (by decide)
    exact J_10_4 f_37 A_37 _ _ _ (by omega) FA FF hT hP hS (lv_sub hl [0, 1, 2] rfl)
set_option maxHeartbeats 4000000 in
set_option maxRecDepth 100000 in
theorem c_X12_score (l : Launch) (D : va_G) (K : zK) (hM : mK K) (f : Nat → Int32) (A : Nat → Nat → Int32) (hT : mT f A) (a0 : Nat) (ha0 : a0 ∈ zl K) (hk0 : zk K a0 = 11) (x1 : Int32) (x2 : Int32) (hp0 : zRow x1.toInt) (hp1 : 0 ≤ x2.toInt ∧ x2.toInt ≤ 3) (hp2 : (f 11).toInt ≤ 1980000000) : Met l yX12_score (zc yX12_score cX12_score 7 (some .int)) (rmd 2) (va_Pc [.ref a0, .int x1, .int x2] (zB D K (mV K f A))) (mQi D K (fun r f' A' => mT f' A' ∧ (∀ k, k ∉ ([50] : List Nat) → A' k = A k) ∧ (∀ k, k ∉ ([11] : List Nat) → f' k = f k) ∧ (f 11).toInt ≤ (f' 11).toInt ∧ (f' 11).toInt ≤ (f 11).toInt + 4 ∧ ((f 12).toInt ≠ 0 → (f' 11).toInt = (f 11).toInt))) 0 0 (zA K) := by
  refine zin (by decide) (Nat.le_of_ble_eq_true rfl) ?_
  intro p e s m args below meth c ls Q hQ C hr hlk hP hs hl
  have C : CallFix p m c cX12_score 7 s args zw RX12 := C
  obtain ⟨hx, hb, hml, hown, hts⟩ := id C
  have hO := hM.1
  have hS : va_S (zA K) s.heap s.heap [] := va_S.rf
  have FA : ∀ k, k ∉ ([50] : List Nat) → A k = A k := fun _ _ => rfl
  have FF : ∀ k, k ∉ ([11] : List Nat) → f k = f k := fun _ _ => rfl
  have hl : lv_has ls 7 [(0, .ref a0), (1, .int x1), (2, .int x2)] := hl
  have hb0 := hp0.lin
  refine lv_iconst (v := 0) hx hb dX12_score_0 (by decide) ?_
  refine lv_istore_n (lv' := [(3, .int 0), (0, .ref a0), (1, .int x1), (2, .int x2)]) hx hb dX12_score_1 rfl hl (by decide) rfl (fun ls hl => ?_)
  refine lv_aload_n hx hb dX12_score_2 rfl (lv_at hl 1 rfl) ?_
  refine mg_0 C hs hP ha0 hk0 wf_X12_8 dX12_score_3 ?_
  have hf_1 := hO.r (j := 0) ha0 hk0 (rfl : zX 11 0 = some (40, 47730))
  refine lv_iload_n hx hb dX12_score_6 rfl (lv_at hl 2 rfl) ?_
  refine lv_iconst (v := 2) hx hb dX12_score_7 (by decide) ?_
  refine lv_iadd hx hb dX12_score_8 ?_
  refine lv_topi (fun x_2 ex_2 => ?_)
  have g_3 := z_rng x1
  obtain ⟨f_2, l_2, u_2⟩ := z_add ex_2 rfl ti_2
  try replace f_2 : x_2.toInt = x1.toInt + 2 := by omega
  have hi_hr_4 : x_2.toInt = x1.toInt + (2) := by omega
  have hr_4 := z_cell (lo := 2) (hi := 8) hp0 hi_hr_4 (by decide) (by decide)
  have hin_5 : vp_in x_2 (zn K (zr K a0 0)) := vp_in_iff.mpr (by rw [(hf_1.2.2 (by decide))]; exact hr_4.in)
  refine mld_40 C hs hP hf_1.1 hf_1.2.1 hin_5 dX12_score_9 ?_
  have ep_6 : x_2.toNatClampNeg = (x1.toInt + 2).toNat := z_pos (hi_hr_4.trans (by omega))
  rw [ep_6]
  refine lv_iconst (v := 4) hx hb dX12_score_10 (by decide) ?_
  have J_22_11 : ∀ (f_12 : Nat → Int32) (A_12 : Nat → Nat → Int32) (H : Heap) (locs : List Loc) (y_10 : Int32) (ls : Array Slot), (y_10 = 0 ∨ y_10 = 1) → ((f 11).toInt ≤ (f_12 11).toInt ∧ (f_12 11).toInt ≤ (f 11).toInt + 1 ∧ ((f 12).toInt ≠ 0 → (f_12 11).toInt = (f 11).toInt)) → (∀ k, k ∉ ([50] : List Nat) → A_12 k = A k) → (∀ k, k ∉ ([11] : List Nat) → f_12 k = f k) → mT f_12 A_12 → va_P D vwCl (zW K (mV K f_12 A_12)) H → va_S (zA K) s.heap H locs → lv_has ls 7 [(0, .ref a0), (1, .int x1), (2, .int x2), (3, .int y_10)] → W p l e (rmd 2) s m args below meth c H locs 0 0 Q (F0 m 22 ls []) := by
    intro f_12 A_12 H locs y_10 ls hb_y_10 iv_12_0 FA_12 FF_12 hT hP hS hl
    have FA := FA_12
    have FF := FF_12
    refine lv_aload_n hx hb dX12_score_22 rfl (lv_at hl 0 rfl) ?_
    refine mg_0 C hs hP ha0 hk0 wf_X12_8 dX12_score_23 ?_
    refine lv_iload_n hx hb dX12_score_26 rfl (lv_at hl 1 rfl) ?_
    refine lv_iconst (v := 4) hx hb dX12_score_27 (by decide) ?_
    refine lv_iadd hx hb dX12_score_28 ?_
    refine lv_topi (fun x_14 ex_14 => ?_)
    obtain ⟨f_14, l_14, u_14⟩ := z_add ex_14 rfl ti_4
    try replace f_14 : x_14.toInt = x1.toInt + 4 := by omega
    have hi_hr_15 : x_14.toInt = x1.toInt + (4) := by omega
    have hr_15 := z_cell (lo := 2) (hi := 8) hp0 hi_hr_15 (by decide) (by decide)
    have hin_16 : vp_in x_14 (zn K (zr K a0 0)) := vp_in_iff.mpr (by rw [(hf_1.2.2 (by decide))]; exact hr_15.in)
    refine mld_40 C hs hP hf_1.1 hf_1.2.1 hin_16 dX12_score_29 ?_
    have ep_17 : x_14.toNatClampNeg = (x1.toInt + 4).toNat := z_pos (hi_hr_15.trans (by omega))
    rw [ep_17]
    have ev_18 : A_12 40 (x1.toInt + 4).toNat = A 40 (x1.toInt + 4).toNat := by rw [FA_12 40 (by decide)]
    rw [ev_18]
    refine lv_istore (lv' := [(4, .int (A 40 (x1.toInt + 4).toNat)), (0, .ref a0), (1, .int x1), (2, .int x2), (3, .int y_10)]) hx hb dX12_score_30 hl (by decide) rfl (fun ls hl => ?_)
    refine lv_iload hx hb dX12_score_32 (lv_at hl 0 rfl) ?_
    refine lv_iconst (v := 2) hx hb dX12_score_34 (by decide) ?_
    refine bi_ne (tgt := 93) hx hb rfl ti_2 dX12_score_35 (by decide) (fun c_19 => ?_) (fun c_19 => ?_)
    · skip
      refine lv_iload hx hb dX12_score_93 (lv_at hl 0 rfl) ?_
      refine lv_iconst (v := 3) hx hb dX12_score_95 (by decide) ?_
      refine bi_ne (tgt := 145) hx hb rfl ti_3 dX12_score_96 (by decide) (fun c_20 => ?_) (fun c_20 => ?_)
      · skip
        refine lv_iload_n hx hb dX12_score_145 rfl (lv_at hl 4 rfl) ?_
        refine lv_aload_n hx hb dX12_score_146 rfl (lv_at hl 1 rfl) ?_
        refine lv_iload_n hx hb dX12_score_147 rfl (lv_at hl 2 rfl) ?_
        refine lv_iload hx hb dX12_score_148 (lv_at hl 0 rfl) ?_
        refine lv_iconst (v := 1) hx hb dX12_score_150 (by decide) ?_
        refine bi_ne (tgt := 158) hx hb rfl ti_1 dX12_score_151 (by decide) (fun c_21 => ?_) (fun c_21 => ?_)
        · skip
          refine lv_iconst (v := 0) hx hb dX12_score_158 (by decide) ?_
          have hq_22 : (f_12 11).toInt ≤ 1990000000 := by (try simp only [ti_0]); first | assumption | omega | (intros; omega)
          refine mcI (zrV (As := [.int x1, .int 0]) (b := a0) (rest := [.int y_10]) C hs hP hS (c_X12_scorePlainly l D K hM f_12 A_12 hT a0 ha0 hk0 x1 0 hp0 hq_22) m_X12_scorePlainly wm_X12_143 (zrecv hs hP ha0 (zF_11 hk0) rfl) ⟨by decide, by decide⟩ hl.1 (Nat.le_of_ble_eq_true rfl) dX12_score_159) hS (fun x_23 f_23 A_23 H locs p_23 hP hS => ?_)
          obtain ⟨hT, hA_23, hF_23, pp_23⟩ := p_23
          have pp_23 : (f_12 11).toInt ≤ (f_23 11).toInt ∧ (f_23 11).toInt ≤ (f_12 11).toInt + 2 ∧ ((f_12 12).toInt ≠ 0 → (f_23 11).toInt = (f_12 11).toInt) := pp_23
          have ev_24 : f_12 12 = f 12 := by rw [FF_12 12 (by decide)]
          rw [ev_24] at pp_23
          try simp only [ti_0] at pp_23
          have FA := frA FA hA_23 (by decide)
          have FF := frF FF hF_23 (by decide)
          refine lv_iadd hx hb dX12_score_162 ?_
          refine lv_topi (fun x_25 ex_25 => ?_)
          exact maI hQ hx hb hr hlk hP hS ⟨hT, FA, FF, (by (try dsimp only); (first | omega | (intro h9; omega) | (simp; done) | (refine ⟨?_, ?_⟩ <;> intros <;> first | trivial | omega) | (refine ⟨?_, ?_, ?_⟩ <;> intros <;> first | trivial | omega)))⟩ dX12_score_163
        · skip
          refine lv_iconst (v := 1) hx hb dX12_score_154 (by decide) ?_
          refine lv_goto (tgt := 159) hx hb dX12_score_155 (by decide) ?_
          have hq_26 : (f_12 11).toInt ≤ 1990000000 := by (try simp only [ti_1]); first | assumption | omega | (intros; omega)
          refine mcI (zrV (As := [.int x1, .int 1]) (b := a0) (rest := [.int y_10]) C hs hP hS (c_X12_scorePlainly l D K hM f_12 A_12 hT a0 ha0 hk0 x1 1 hp0 hq_26) m_X12_scorePlainly wm_X12_143 (zrecv hs hP ha0 (zF_11 hk0) rfl) ⟨by decide, by decide⟩ hl.1 (Nat.le_of_ble_eq_true rfl) dX12_score_159) hS (fun x_27 f_27 A_27 H locs p_27 hP hS => ?_)
          obtain ⟨hT, hA_27, hF_27, pp_27⟩ := p_27
          have pp_27 : (f_12 11).toInt ≤ (f_27 11).toInt ∧ (f_27 11).toInt ≤ (f_12 11).toInt + 2 ∧ ((f_12 12).toInt ≠ 0 → (f_27 11).toInt = (f_12 11).toInt) := pp_27
          have ev_28 : f_12 12 = f 12 := by rw [FF_12 12 (by decide)]
          rw [ev_28] at pp_27
          try simp only [ti_1] at pp_27
          have FA := frA FA hA_27 (by decide)
          have FF := frF FF hF_27 (by decide)
          refine lv_iadd hx hb dX12_score_162 ?_
          refine lv_topi (fun x_29 ex_29 => ?_)
          exact maI hQ hx hb hr hlk hP hS ⟨hT, FA, FF, (by (try dsimp only); (first | omega | (intro h9; omega) | (simp; done) | (refine ⟨?_, ?_⟩ <;> intros <;> first | trivial | omega) | (refine ⟨?_, ?_, ?_⟩ <;> intros <;> first | trivial | omega)))⟩ dX12_score_163
      · skip
        refine lv_aload_n hx hb dX12_score_99 rfl (lv_at hl 1 rfl) ?_
        refine lv_bipush (v := 44) hx hb dX12_score_100 (by decide) ?_
        have hq_30 : (f_12 11).toInt ≤ 2000000000 := by (try simp only [ti_44]); first | assumption | omega | (intros; omega)
        refine mcV (zrV (As := [.int 44]) (b := a0) (rest := []) C hs hP hS (c_X12_body l D K hM f_12 A_12 hT a0 ha0 hk0 44 hq_30) m_X12_body wm_X12_124 (zrecv hs hP ha0 (zF_11 hk0) rfl) ⟨by decide, by decide⟩ hl.1 (Nat.le_of_ble_eq_true rfl) dX12_score_102) hS (fun f_31 A_31 H locs p_31 hP hS => ?_)
        obtain ⟨hT, hA_31, hF_31, pp_31⟩ := p_31
        have pp_31 : (f_12 11).toInt ≤ (f_31 11).toInt ∧ (f_31 11).toInt ≤ (f_12 11).toInt + 1 ∧ ((f_12 12).toInt ≠ 0 → (f_31 11).toInt = (f_12 11).toInt) := pp_31
        have ev_32 : f_12 12 = f 12 := by rw [FF_12 12 (by decide)]
        rw [ev_32] at pp_31
        try simp only [ti_44] at pp_31
        have FA := frA FA hA_31 (by decide)
        have FF := frF FF hF_31 (by decide)
        refine lv_aload_n hx hb dX12_score_105 rfl (lv_at hl 1 rfl) ?_
        refine lv_iload_n hx hb dX12_score_106 rfl (lv_at hl 2 rfl) ?_
        refine lv_iconst (v := 1) hx hb dX12_score_107 (by decide) ?_
        have hq_33 : (f_31 11).toInt ≤ 1990000000 := by (try simp only [ti_1]); first | assumption | omega | (intros; omega)
        refine mcI (zrV (As := [.int x1, .int 1]) (b := a0) (rest := []) C hs hP hS (c_X12_scorePlainly l D K hM f_31 A_31 hT a0 ha0 hk0 x1 1 hp0 hq_33) m_X12_scorePlainly wm_X12_143 (zrecv hs hP ha0 (zF_11 hk0) rfl) ⟨by decide, by decide⟩ hl.1 (Nat.le_of_ble_eq_true rfl) dX12_score_108) hS (fun x_34 f_34 A_34 H locs p_34 hP hS => ?_)
        obtain ⟨hT, hA_34, hF_34, pp_34⟩ := p_34
        have pp_34 : (f_31 11).toInt ≤ (f_34 11).toInt ∧ (f_34 11).toInt ≤ (f_31 11).toInt + 2 ∧ ((f_31 12).toInt ≠ 0 → (f_34 11).toInt = (f_31 11).toInt) := pp_34
        have ev_35 : f_31 12 = f 12 := by rw [hF_31 12 (by decide), FF_12 12 (by decide)]
        rw [ev_35] at pp_34
        try simp only [ti_1] at pp_34
        have FA := frA FA hA_34 (by decide)
        have FF := frF FF hF_34 (by decide)
        refine lv_istore (lv' := [(5, .int x_34), (4, .int (A 40 (x1.toInt + 4).toNat)), (0, .ref a0), (1, .int x1), (2, .int x2), (3, .int y_10)]) hx hb dX12_score_111 hl (by decide) rfl (fun ls hl => ?_)
        refine lv_iload_n hx hb dX12_score_113 rfl (lv_at hl 5 rfl) ?_
        refine lv_aload_n hx hb dX12_score_114 rfl (lv_at hl 2 rfl) ?_
        refine mg_15 C hs hP ha0 hk0 wf_X12_39 dX12_score_115 ?_
        have hf_36 := hO.r (j := 15) ha0 hk0 (rfl : zX 11 15 = some (55, 4))
        refine lv_iload_n hx hb dX12_score_118 rfl (lv_at hl 4 rfl) ?_
        have g_38 := z_rng x2
        have hin_37 : vp_in x2 (zn K (zr K a0 15)) := vp_in_iff.mpr (by rw [(hf_36.2.2 (by decide))]; refine ⟨?_, ?_⟩ <;> omega)
        refine mld_55 C hs hP hf_36.1 hf_36.2.1 hin_37 dX12_score_119 ?_
        have ev_39 : A_34 55 x2.toNatClampNeg = A 55 x2.toNatClampNeg := by rw [hA_34 55 (by decide), hA_31 55 (by decide), FA_12 55 (by decide)]
        have tv_40 := ra_55 hT (vp_in_iff.mp hin_37).1 (by have h7 := (vp_in_iff.mp hin_37).2; rw [(hf_36.2.2 (by decide))] at h7; exact h7)
        rw [ev_39] at tv_40
        rw [ev_39]
        refine lv_iconst (v := 4) hx hb dX12_score_120 (by decide) ?_
        refine lv_irem hx hb dX12_score_121 (by decide) ?_
        refine lv_topi (fun x_41 ex_41 => ?_)
        refine lv_aload_n hx hb dX12_score_122 rfl (lv_at hl 2 rfl) ?_
        refine mg_0 C hs hP ha0 hk0 wf_X12_8 dX12_score_123 ?_
        refine lv_iload_n hx hb dX12_score_126 rfl (lv_at hl 3 rfl) ?_
        refine lv_bipush (v := 11) hx hb dX12_score_127 (by decide) ?_
        refine lv_iadd hx hb dX12_score_129 ?_
        refine lv_topi (fun x_42 ex_42 => ?_)
        obtain ⟨f_42, l_42, u_42⟩ := z_add ex_42 rfl ti_11
        try replace f_42 : x_42.toInt = x1.toInt + 11 := by omega
        have hi_hr_43 : x_42.toInt = x1.toInt + (11) := by omega
        have hr_43 := z_cell (lo := 10) (hi := 19) hp0 hi_hr_43 (by decide) (by decide)
        have hin_44 : vp_in x_42 (zn K (zr K a0 0)) := vp_in_iff.mpr (by rw [(hf_1.2.2 (by decide))]; exact hr_43.in)
        refine mld_40 C hs hP hf_1.1 hf_1.2.1 hin_44 dX12_score_130 ?_
        have ep_45 : x_42.toNatClampNeg = (x1.toInt + 11).toNat := z_pos (hi_hr_43.trans (by omega))
        rw [ep_45]
        have ev_46 : A_34 40 (x1.toInt + 11).toNat = A 40 (x1.toInt + 11).toNat := by rw [hA_34 40 (by decide), hA_31 40 (by decide), FA_12 40 (by decide)]
        rw [ev_46]
        refine bi_ne (tgt := 141) hx hb rfl rfl dX12_score_131 (by decide) (fun c_47 => ?_) (fun c_47 => ?_)
        · skip
          refine lv_iload hx hb dX12_score_141 (lv_at hl 0 rfl) ?_
          refine lv_iadd hx hb dX12_score_143 ?_
          refine lv_topi (fun x_48 ex_48 => ?_)
          have g_49 := z_rng (A 55 x2.toNatClampNeg)
          have f_41 := z_rem ex_41 rfl ti_4 (by decide)
          exact maI hQ hx hb hr hlk hP hS ⟨hT, FA, FF, (by (try dsimp only); (first | omega | (intro h9; omega) | (simp; done) | (refine ⟨?_, ?_⟩ <;> intros <;> first | trivial | omega) | (refine ⟨?_, ?_, ?_⟩ <;> intros <;> first | trivial | omega)))⟩ dX12_score_144
        · skip
          refine lv_iconst (v := 2) hx hb dX12_score_134 (by decide) ?_
          refine lv_iload hx hb dX12_score_135 (lv_at hl 0 rfl) ?_
          refine lv_imul hx hb dX12_score_137 ?_
          refine lv_topi (fun x_50 ex_50 => ?_)
          refine lv_goto (tgt := 143) hx hb dX12_score_138 (by decide) ?_
          refine lv_iadd hx hb dX12_score_143 ?_
          refine lv_topi (fun x_51 ex_51 => ?_)
          have g_52 := z_rng (A 55 x2.toNatClampNeg)
          have f_41 := z_rem ex_41 rfl ti_4 (by decide)
          exact maI hQ hx hb hr hlk hP hS ⟨hT, FA, FF, (by (try dsimp only); (first | omega | (intro h9; omega) | (simp; done) | (refine ⟨?_, ?_⟩ <;> intros <;> first | trivial | omega) | (refine ⟨?_, ?_, ?_⟩ <;> intros <;> first | trivial | omega)))⟩ dX12_score_144
    · skip
      refine lv_aload_n hx hb dX12_score_38 rfl (lv_at hl 1 rfl) ?_
      refine lv_bipush (v := 43) hx hb dX12_score_39 (by decide) ?_
      have hq_53 : (f_12 11).toInt ≤ 2000000000 := by (try simp only [ti_43]); first | assumption | omega | (intros; omega)
      refine mcV (zrV (As := [.int 43]) (b := a0) (rest := []) C hs hP hS (c_X12_body l D K hM f_12 A_12 hT a0 ha0 hk0 43 hq_53) m_X12_body wm_X12_124 (zrecv hs hP ha0 (zF_11 hk0) rfl) ⟨by decide, by decide⟩ hl.1 (Nat.le_of_ble_eq_true rfl) dX12_score_41) hS (fun f_54 A_54 H locs p_54 hP hS => ?_)
      obtain ⟨hT, hA_54, hF_54, pp_54⟩ := p_54
      have pp_54 : (f_12 11).toInt ≤ (f_54 11).toInt ∧ (f_54 11).toInt ≤ (f_12 11).toInt + 1 ∧ ((f_12 12).toInt ≠ 0 → (f_54 11).toInt = (f_12 11).toInt) := pp_54
      have ev_55 : f_12 12 = f 12 := by rw [FF_12 12 (by decide)]
      rw [ev_55] at pp_54
      try simp only [ti_43] at pp_54
      have FA := frA FA hA_54 (by decide)
      have FF := frF FF hF_54 (by decide)
      refine lv_iconst (v := 0) hx hb dX12_score_44 (by decide) ?_
      refine lv_istore (lv' := [(5, .int 0), (4, .int (A 40 (x1.toInt + 4).toNat)), (0, .ref a0), (1, .int x1), (2, .int x2), (3, .int y_10)]) hx hb dX12_score_45 hl (by decide) rfl (fun ls hl => ?_)
      refine lv_iconst (v := 0) hx hb dX12_score_47 (by decide) ?_
      refine lv_istore (lv' := [(6, .int 0), (5, .int 0), (4, .int (A 40 (x1.toInt + 4).toNat)), (0, .ref a0), (1, .int x1), (2, .int x2), (3, .int y_10)]) hx hb dX12_score_48 hl (by decide) rfl (fun ls hl => ?_)
      have L_50_58 : ∀ (n_58 : Nat) (y_56 : Int32) (y_57 : Int32) (ls : Array Slot), (2147483648 - y_56.toInt).toNat < n_58 → 0 ≤ y_56.toInt → lv_has ls 7 [(6, .int y_56), (5, .int y_57), (4, .int (A 40 (x1.toInt + 4).toNat)), (0, .ref a0), (1, .int x1), (2, .int x2), (3, .int y_10)] → W p l e (rmd 2) s m args below meth c H locs 0 0 Q (F0 m 50 ls []) := by
        intro n_58
        induction n_58 with
        | zero => intro y_56 y_57 ls hm_58; exact absurd hm_58 (Nat.not_lt_zero _)
        | succ n_58 ih_58 =>
          intro y_56 y_57 ls hm_58 iv_59_0 hl
          refine lv_iload hx hb dX12_score_50 (lv_at hl 0 rfl) ?_
          refine lv_aload_n hx hb dX12_score_52 rfl (lv_at hl 3 rfl) ?_
          refine mg_16 C hs hP ha0 hk0 wf_X12_127 dX12_score_53 ?_
          have ev_60 : f_54 16 = f 16 := by rw [hF_54 16 (by decide), FF_12 16 (by decide)]
          rw [ev_60]
          have tf_61 : 0 ≤ (f 16).toInt ∧ (f 16).toInt ≤ 4 := by rw [← ev_60]; exact hT.1 16
          refine bi_ge (tgt := 88) hx hb rfl rfl dX12_score_56 (by decide) (fun c_62 => ?_) (fun c_62 => ?_)
          · skip
            refine lv_iload_n hx hb dX12_score_88 rfl (lv_at hl 6 rfl) ?_
            refine lv_iload hx hb dX12_score_89 (lv_at hl 1 rfl) ?_
            refine lv_isub hx hb dX12_score_91 ?_
            refine lv_topi (fun x_63 ex_63 => ?_)
            exact maI hQ hx hb hr hlk hP hS ⟨hT, FA, FF, (by (try dsimp only); (first | omega | (intro h9; omega) | (simp; done) | (refine ⟨?_, ?_⟩ <;> intros <;> first | trivial | omega) | (refine ⟨?_, ?_, ?_⟩ <;> intros <;> first | trivial | omega)))⟩ dX12_score_92
          · skip
            refine lv_iload hx hb dX12_score_59 (lv_at hl 1 rfl) ?_
            refine lv_aload_n hx hb dX12_score_61 rfl (lv_at hl 3 rfl) ?_
            refine mg_15 C hs hP ha0 hk0 wf_X12_39 dX12_score_62 ?_
            have hf_64 := hO.r (j := 15) ha0 hk0 (rfl : zX 11 15 = some (55, 4))
            refine lv_iload hx hb dX12_score_65 (lv_at hl 0 rfl) ?_
            have g_66 := z_rng y_56
            have hin_65 : vp_in y_56 (zn K (zr K a0 15)) := vp_in_iff.mpr (by rw [(hf_64.2.2 (by decide))]; refine ⟨?_, ?_⟩ <;> omega)
            refine mld_55 C hs hP hf_64.1 hf_64.2.1 hin_65 dX12_score_67 ?_
            have ev_67 : A_54 55 y_56.toNatClampNeg = A 55 y_56.toNatClampNeg := by rw [hA_54 55 (by decide), FA_12 55 (by decide)]
            have tv_68 := ra_55 hT (vp_in_iff.mp hin_65).1 (by have h7 := (vp_in_iff.mp hin_65).2; rw [(hf_64.2.2 (by decide))] at h7; exact h7)
            rw [ev_67] at tv_68
            rw [ev_67]
            refine lv_iconst (v := 4) hx hb dX12_score_68 (by decide) ?_
            refine lv_irem hx hb dX12_score_69 (by decide) ?_
            refine lv_topi (fun x_69 ex_69 => ?_)
            refine lv_iconst (v := 3) hx hb dX12_score_70 (by decide) ?_
            have J_79_72 : ∀ (y_71 : Int32) (ls : Array Slot), (y_71 = 0 ∨ y_71 = 1) → lv_has ls 7 [(0, .ref a0), (1, .int x1), (2, .int x2), (3, .int y_10), (4, .int (A 40 (x1.toInt + 4).toNat)), (5, .int y_57), (6, .int y_56)] → W p l e (rmd 2) s m args below meth c H locs 0 0 Q (F0 m 79 ls [.int y_71, .int y_57]) := by
              intro y_71 ls hb_y_71 hl
              refine lv_iadd hx hb dX12_score_79 ?_
              refine lv_topi (fun x_74 ex_74 => ?_)
              refine lv_istore (lv' := [(5, .int x_74), (0, .ref a0), (1, .int x1), (2, .int x2), (3, .int y_10), (4, .int (A 40 (x1.toInt + 4).toNat)), (6, .int y_56)]) hx hb dX12_score_80 hl (by decide) rfl (fun ls hl => ?_)
              obtain ⟨x_75, ex_75⟩ : ∃ y : Int32, y = y_56 + 1 := ⟨_, rfl⟩
              refine lv_iinc (v := x_75) (lv' := [(6, .int x_75), (5, .int x_74), (0, .ref a0), (1, .int x1), (2, .int x2), (3, .int y_10), (4, .int (A 40 (x1.toInt + 4).toNat))]) hx hb dX12_score_82 hl (k := 6) rfl (by rw [ex_75]; rfl) (by decide) rfl (fun ls hl => ?_)
              refine lv_goto (tgt := 50) hx hb dX12_score_85 (by decide) ?_
              obtain ⟨f_75, l_75, u_75⟩ := z_add ex_75 rfl ti_1
              try replace f_75 : x_75.toInt = y_56.toInt + 1 := by omega
              have g_76 := z_rng (f 16)
              exact ih_58 x_75 x_74 _ (by omega) (by omega) (lv_sub hl [0, 1, 6, 2, 3, 4, 5] rfl)
            refine bi_ne (tgt := 78) hx hb rfl ti_3 dX12_score_71 (by decide) (fun c_70 => ?_) (fun c_70 => ?_)
            · skip
              refine lv_iconst (v := 0) hx hb dX12_score_78 (by decide) ?_
              exact J_79_72 0 _ (Or.inl rfl) (lv_sub hl [3, 4, 5, 6, 2, 1, 0] rfl)
            · skip
              refine lv_iconst (v := 1) hx hb dX12_score_74 (by decide) ?_
              refine lv_goto (tgt := 79) hx hb dX12_score_75 (by decide) ?_
              exact J_79_72 1 _ (Or.inr rfl) (lv_sub hl [3, 4, 5, 6, 2, 1, 0] rfl)
      have g_77 := z_rng (A 40 (x1.toInt + 4).toNat)
      exact L_50_58 _ 0 0 _ (Nat.lt_succ_self _) (by (try simp only [ti_0]); omega) (lv_sub hl [0, 1, 2, 3, 4, 5, 6] rfl)
  refine bi_ne (tgt := 22) hx hb rfl ti_4 dX12_score_11 (by decide) (fun c_7 => ?_) (fun c_7 => ?_)
  · skip
    exact J_22_11 f A _ _ 0 _ (Or.inl rfl) (by omega) FA FF hT hP hS (lv_sub hl [1, 2, 3, 0] rfl)
  · skip
    refine lv_aload_n hx hb dX12_score_14 rfl (lv_at hl 1 rfl) ?_
    refine lv_bipush (v := 45) hx hb dX12_score_15 (by decide) ?_
    have hq_78 : (f 11).toInt ≤ 2000000000 := by (try simp only [ti_45]); first | assumption | omega | (intros; omega)
    refine mcV (zrV (As := [.int 45]) (b := a0) (rest := []) C hs hP hS (c_X12_body l D K hM f A hT a0 ha0 hk0 45 hq_78) m_X12_body wm_X12_124 (zrecv hs hP ha0 (zF_11 hk0) rfl) ⟨by decide, by decide⟩ hl.1 (Nat.le_of_ble_eq_true rfl) dX12_score_17) hS (fun f_79 A_79 H locs p_79 hP hS => ?_)
    obtain ⟨hT, hA_79, hF_79, pp_79⟩ := p_79
    have pp_79 : (f 11).toInt ≤ (f_79 11).toInt ∧ (f_79 11).toInt ≤ (f 11).toInt + 1 ∧ ((f 12).toInt ≠ 0 → (f_79 11).toInt = (f 11).toInt) := pp_79
    try simp only [ti_45] at pp_79
    have FA := frA FA hA_79 (by decide)
    have FF := frF FF hF_79 (by decide)
    refine lv_iconst (v := 1) hx hb dX12_score_20 (by decide) ?_
    refine lv_istore_n (lv' := [(3, .int 1), (0, .ref a0), (1, .int x1), (2, .int x2)]) hx hb dX12_score_21 rfl hl (by decide) rfl (fun ls hl => ?_)
    exact J_22_11 f_79 A_79 _ _ 1 _ (Or.inr rfl) (by omega) FA FF hT hP hS (lv_sub hl [1, 2, 3, 0] rfl)
set_option maxHeartbeats 4000000 in
set_option maxRecDepth 100000 in
theorem c_X12_settle (l : Launch) (D : va_G) (K : zK) (hM : mK K) (f : Nat → Int32) (A : Nat → Nat → Int32) (hT : mT f A) (a0 : Nat) (ha0 : a0 ∈ zl K) (hk0 : zk K a0 = 11) (x1 : Int32) (x2 : Int32) (hp0 : zRow x1.toInt) (hp1 : 0 ≤ x2.toInt ∧ x2.toInt ≤ 1) (hp2 : (f 11).toInt ≤ 1980000000) : Met l yX12_settle (zc yX12_settle cX12_settle 6 (some .int)) (rmd 1) (va_Pc [.ref a0, .int x1, .int x2] (zB D K (mV K f A))) (mQi D K (fun r f' A' => mT f' A' ∧ (∀ k, k ∉ ([50] : List Nat) → A' k = A k) ∧ (∀ k, k ∉ ([11] : List Nat) → f' k = f k) ∧ (f 11).toInt ≤ (f' 11).toInt ∧ (f' 11).toInt ≤ (f 11).toInt + 3 ∧ ((f 12).toInt ≠ 0 → (f' 11).toInt = (f 11).toInt))) 0 0 (zA K) := by
  refine zin (by decide) (Nat.le_of_ble_eq_true rfl) ?_
  intro p e s m args below meth c ls Q hQ C hr hlk hP hs hl
  have C : CallFix p m c cX12_settle 6 s args zw RX12 := C
  obtain ⟨hx, hb, hml, hown, hts⟩ := id C
  have hO := hM.1
  have hS : va_S (zA K) s.heap s.heap [] := va_S.rf
  have FA : ∀ k, k ∉ ([50] : List Nat) → A k = A k := fun _ _ => rfl
  have FF : ∀ k, k ∉ ([11] : List Nat) → f k = f k := fun _ _ => rfl
  have hl : lv_has ls 6 [(0, .ref a0), (1, .int x1), (2, .int x2)] := hl
  have hb0 := hp0.lin
  refine lv_aload_n hx hb dX12_settle_0 rfl (lv_at hl 0 rfl) ?_
  refine mg_0 C hs hP ha0 hk0 wf_X12_8 dX12_settle_1 ?_
  have hf_1 := hO.r (j := 0) ha0 hk0 (rfl : zX 11 0 = some (40, 47730))
  refine lv_iload_n hx hb dX12_settle_4 rfl (lv_at hl 1 rfl) ?_
  refine lv_iconst (v := 2) hx hb dX12_settle_5 (by decide) ?_
  refine lv_iadd hx hb dX12_settle_6 ?_
  refine lv_topi (fun x_2 ex_2 => ?_)
  have g_3 := z_rng x1
  obtain ⟨f_2, l_2, u_2⟩ := z_add ex_2 rfl ti_2
  try replace f_2 : x_2.toInt = x1.toInt + 2 := by omega
  have hi_hr_4 : x_2.toInt = x1.toInt + (2) := by omega
  have hr_4 := z_cell (lo := 2) (hi := 8) hp0 hi_hr_4 (by decide) (by decide)
  have hin_5 : vp_in x_2 (zn K (zr K a0 0)) := vp_in_iff.mpr (by rw [(hf_1.2.2 (by decide))]; exact hr_4.in)
  refine mld_40 C hs hP hf_1.1 hf_1.2.1 hin_5 dX12_settle_7 ?_
  have ep_6 : x_2.toNatClampNeg = (x1.toInt + 2).toNat := z_pos (hi_hr_4.trans (by omega))
  rw [ep_6]
  refine lv_iconst (v := 4) hx hb dX12_settle_8 (by decide) ?_
  have J_18_10 : ∀ (f_11 : Nat → Int32) (A_11 : Nat → Nat → Int32) (H : Heap) (locs : List Loc) (ls : Array Slot), ((f 11).toInt ≤ (f_11 11).toInt ∧ (f_11 11).toInt ≤ (f 11).toInt + 1 ∧ ((f 12).toInt ≠ 0 → (f_11 11).toInt = (f 11).toInt)) → (∀ k, k ∉ ([50] : List Nat) → A_11 k = A k) → (∀ k, k ∉ ([11] : List Nat) → f_11 k = f k) → mT f_11 A_11 → va_P D vwCl (zW K (mV K f_11 A_11)) H → va_S (zA K) s.heap H locs → lv_has ls 6 [(0, .ref a0), (1, .int x1), (2, .int x2)] → W p l e (rmd 1) s m args below meth c H locs 0 0 Q (F0 m 18 ls []) := by
    intro f_11 A_11 H locs ls iv_11_0 FA_11 FF_11 hT hP hS hl
    have FA := FA_11
    have FF := FF_11
    refine lv_aload_n hx hb dX12_settle_18 rfl (lv_at hl 0 rfl) ?_
    refine mg_0 C hs hP ha0 hk0 wf_X12_8 dX12_settle_19 ?_
    refine lv_iload_n hx hb dX12_settle_22 rfl (lv_at hl 1 rfl) ?_
    refine lv_bipush (v := 17) hx hb dX12_settle_23 (by decide) ?_
    refine lv_iadd hx hb dX12_settle_25 ?_
    refine lv_topi (fun x_13 ex_13 => ?_)
    refine lv_iload_n hx hb dX12_settle_26 rfl (lv_at hl 2 rfl) ?_
    refine lv_iadd hx hb dX12_settle_27 ?_
    refine lv_topi (fun x_14 ex_14 => ?_)
    obtain ⟨f_13, l_13, u_13⟩ := z_add ex_13 rfl ti_17
    try replace f_13 : x_13.toInt = x1.toInt + 17 := by omega
    have g_15 := z_rng x2
    obtain ⟨f_14, l_14, u_14⟩ := z_add ex_14 rfl rfl
    try replace f_14 : x_14.toInt = x_13.toInt + x2.toInt := by omega
    have hi_hr_16 : x_14.toInt = x1.toInt + (x2.toInt + 17) := by omega
    have hr_16 := z_cell (lo := 10) (hi := 19) hp0 hi_hr_16 (by omega) (by decide)
    have hin_17 : vp_in x_14 (zn K (zr K a0 0)) := vp_in_iff.mpr (by rw [(hf_1.2.2 (by decide))]; exact hr_16.in)
    refine mld_40 C hs hP hf_1.1 hf_1.2.1 hin_17 dX12_settle_28 ?_
    have ep_18 : x_14.toNatClampNeg = (x1.toInt + x2.toInt + 17).toNat := z_pos (hi_hr_16.trans (by omega))
    rw [ep_18]
    have ev_19 : A_11 40 (x1.toInt + x2.toInt + 17).toNat = A 40 (x1.toInt + x2.toInt + 17).toNat := by rw [FA_11 40 (by decide)]
    rw [ev_19]
    refine lv_istore_n (lv' := [(3, .int (A 40 (x1.toInt + x2.toInt + 17).toNat)), (0, .ref a0), (1, .int x1), (2, .int x2)]) hx hb dX12_settle_29 rfl hl (by decide) rfl (fun ls hl => ?_)
    refine lv_aload_n hx hb dX12_settle_30 rfl (lv_at hl 1 rfl) ?_
    refine mg_0 C hs hP ha0 hk0 wf_X12_8 dX12_settle_31 ?_
    refine lv_iload_n hx hb dX12_settle_34 rfl (lv_at hl 2 rfl) ?_
    refine lv_iconst (v := 4) hx hb dX12_settle_35 (by decide) ?_
    refine lv_iadd hx hb dX12_settle_36 ?_
    refine lv_topi (fun x_20 ex_20 => ?_)
    obtain ⟨f_20, l_20, u_20⟩ := z_add ex_20 rfl ti_4
    try replace f_20 : x_20.toInt = x1.toInt + 4 := by omega
    have hi_hr_21 : x_20.toInt = x1.toInt + (4) := by omega
    have hr_21 := z_cell (lo := 2) (hi := 8) hp0 hi_hr_21 (by decide) (by decide)
    have hin_22 : vp_in x_20 (zn K (zr K a0 0)) := vp_in_iff.mpr (by rw [(hf_1.2.2 (by decide))]; exact hr_21.in)
    refine mld_40 C hs hP hf_1.1 hf_1.2.1 hin_22 dX12_settle_37 ?_
    have ep_23 : x_20.toNatClampNeg = (x1.toInt + 4).toNat := z_pos (hi_hr_21.trans (by omega))
    rw [ep_23]
    have ev_24 : A_11 40 (x1.toInt + 4).toNat = A 40 (x1.toInt + 4).toNat := by rw [FA_11 40 (by decide)]
    rw [ev_24]
    refine lv_iconst (v := 3) hx hb dX12_settle_38 (by decide) ?_
    have J_118_61 : ∀ (f_62 : Nat → Int32) (A_62 : Nat → Nat → Int32) (H : Heap) (locs : List Loc) (y_60 : Int32) (ls : Array Slot), ((f 11).toInt ≤ (f_62 11).toInt ∧ (f_62 11).toInt ≤ (f 11).toInt + 2 ∧ ((f 12).toInt ≠ 0 → (f_62 11).toInt = (f 11).toInt)) → (∀ k, k ∉ ([50] : List Nat) → A_62 k = A k) → (∀ k, k ∉ ([11] : List Nat) → f_62 k = f k) → mT f_62 A_62 → va_P D vwCl (zW K (mV K f_62 A_62)) H → va_S (zA K) s.heap H locs → lv_has ls 6 [(0, .ref a0), (1, .int x1), (2, .int x2), (3, .int y_60)] → W p l e (rmd 1) s m args below meth c H locs 0 0 Q (F0 m 118 ls []) := by
      intro f_62 A_62 H locs y_60 ls iv_62_0 FA_62 FF_62 hT hP hS hl
      have FA := FA_62
      have FF := FF_62
      refine lv_aload_n hx hb dX12_settle_118 rfl (lv_at hl 0 rfl) ?_
      refine lv_bipush (v := 51) hx hb dX12_settle_119 (by decide) ?_
      have hq_64 : (f_62 11).toInt ≤ 2000000000 := by (try simp only [ti_51]); first | assumption | omega | (intros; omega)
      refine mcV (zrV (As := [.int 51]) (b := a0) (rest := []) C hs hP hS (c_X12_body l D K hM f_62 A_62 hT a0 ha0 hk0 51 hq_64) m_X12_body wm_X12_124 (zrecv hs hP ha0 (zF_11 hk0) rfl) ⟨by decide, by decide⟩ hl.1 (Nat.le_of_ble_eq_true rfl) dX12_settle_121) hS (fun f_65 A_65 H locs p_65 hP hS => ?_)
      obtain ⟨hT, hA_65, hF_65, pp_65⟩ := p_65
      have pp_65 : (f_62 11).toInt ≤ (f_65 11).toInt ∧ (f_65 11).toInt ≤ (f_62 11).toInt + 1 ∧ ((f_62 12).toInt ≠ 0 → (f_65 11).toInt = (f_62 11).toInt) := pp_65
      have ev_66 : f_62 12 = f 12 := by rw [FF_62 12 (by decide)]
      rw [ev_66] at pp_65
      try simp only [ti_51] at pp_65
      have FA := frA FA hA_65 (by decide)
      have FF := frF FF hF_65 (by decide)
      refine lv_iload_n hx hb dX12_settle_124 rfl (lv_at hl 3 rfl) ?_
      refine lv_aload_n hx hb dX12_settle_125 rfl (lv_at hl 0 rfl) ?_
      refine mg_0 C hs hP ha0 hk0 wf_X12_8 dX12_settle_126 ?_
      refine lv_iload_n hx hb dX12_settle_129 rfl (lv_at hl 1 rfl) ?_
      refine lv_bipush (v := 13) hx hb dX12_settle_130 (by decide) ?_
      refine lv_iadd hx hb dX12_settle_132 ?_
      refine lv_topi (fun x_67 ex_67 => ?_)
      obtain ⟨f_67, l_67, u_67⟩ := z_add ex_67 rfl ti_13
      try replace f_67 : x_67.toInt = x1.toInt + 13 := by omega
      have hi_hr_68 : x_67.toInt = x1.toInt + (13) := by omega
      have hr_68 := z_cell (lo := 10) (hi := 19) hp0 hi_hr_68 (by decide) (by decide)
      have hin_69 : vp_in x_67 (zn K (zr K a0 0)) := vp_in_iff.mpr (by rw [(hf_1.2.2 (by decide))]; exact hr_68.in)
      refine mld_40 C hs hP hf_1.1 hf_1.2.1 hin_69 dX12_settle_133 ?_
      have ep_70 : x_67.toNatClampNeg = (x1.toInt + 13).toNat := z_pos (hi_hr_68.trans (by omega))
      rw [ep_70]
      have ev_71 : A_65 40 (x1.toInt + 13).toNat = A 40 (x1.toInt + 13).toNat := by rw [hA_65 40 (by decide), FA_62 40 (by decide)]
      rw [ev_71]
      refine lv_ishl hx hb dX12_settle_134 ?_
      refine lv_topi (fun x_72 ex_72 => ?_)
      exact maI hQ hx hb hr hlk hP hS ⟨hT, FA, FF, (by (try dsimp only); (first | omega | (intro h9; omega) | (simp; done) | (refine ⟨?_, ?_⟩ <;> intros <;> first | trivial | omega) | (refine ⟨?_, ?_, ?_⟩ <;> intros <;> first | trivial | omega)))⟩ dX12_settle_135
    refine bi_ne (tgt := 118) hx hb rfl ti_3 dX12_settle_39 (by decide) (fun c_25 => ?_) (fun c_25 => ?_)
    · skip
      exact J_118_61 f_11 A_11 _ _ (A 40 (x1.toInt + x2.toInt + 17).toNat) _ (by omega) FA FF hT hP hS (lv_sub hl [1, 2, 3, 0] rfl)
    · skip
      refine lv_aload_n hx hb dX12_settle_42 rfl (lv_at hl 1 rfl) ?_
      refine lv_bipush (v := 52) hx hb dX12_settle_43 (by decide) ?_
      have hq_73 : (f_11 11).toInt ≤ 2000000000 := by (try simp only [ti_52]); first | assumption | omega | (intros; omega)
      refine mcV (zrV (As := [.int 52]) (b := a0) (rest := []) C hs hP hS (c_X12_body l D K hM f_11 A_11 hT a0 ha0 hk0 52 hq_73) m_X12_body wm_X12_124 (zrecv hs hP ha0 (zF_11 hk0) rfl) ⟨by decide, by decide⟩ hl.1 (Nat.le_of_ble_eq_true rfl) dX12_settle_45) hS (fun f_74 A_74 H locs p_74 hP hS => ?_)
      obtain ⟨hT, hA_74, hF_74, pp_74⟩ := p_74
      have pp_74 : (f_11 11).toInt ≤ (f_74 11).toInt ∧ (f_74 11).toInt ≤ (f_11 11).toInt + 1 ∧ ((f_11 12).toInt ≠ 0 → (f_74 11).toInt = (f_11 11).toInt) := pp_74
      have ev_75 : f_11 12 = f 12 := by rw [FF_11 12 (by decide)]
      rw [ev_75] at pp_74
      try simp only [ti_52] at pp_74
      have FA := frA FA hA_74 (by decide)
      have FF := frF FF hF_74 (by decide)
      refine lv_aload_n hx hb dX12_settle_48 rfl (lv_at hl 1 rfl) ?_
      refine mg_0 C hs hP ha0 hk0 wf_X12_8 dX12_settle_49 ?_
      refine lv_iload_n hx hb dX12_settle_52 rfl (lv_at hl 2 rfl) ?_
      refine lv_bipush (v := 10) hx hb dX12_settle_53 (by decide) ?_
      refine lv_iadd hx hb dX12_settle_55 ?_
      refine lv_topi (fun x_76 ex_76 => ?_)
      obtain ⟨f_76, l_76, u_76⟩ := z_add ex_76 rfl ti_10
      try replace f_76 : x_76.toInt = x1.toInt + 10 := by omega
      have hi_hr_77 : x_76.toInt = x1.toInt + (10) := by omega
      have hr_77 := z_cell (lo := 10) (hi := 19) hp0 hi_hr_77 (by decide) (by decide)
      have hin_78 : vp_in x_76 (zn K (zr K a0 0)) := vp_in_iff.mpr (by rw [(hf_1.2.2 (by decide))]; exact hr_77.in)
      refine mld_40 C hs hP hf_1.1 hf_1.2.1 hin_78 dX12_settle_56 ?_
      have ep_79 : x_76.toNatClampNeg = (x1.toInt + 10).toNat := z_pos (hi_hr_77.trans (by omega))
      rw [ep_79]
      have ev_80 : A_74 40 (x1.toInt + 10).toNat = A 40 (x1.toInt + 10).toNat := by rw [hA_74 40 (by decide), FA_11 40 (by decide)]
      rw [ev_80]
      refine lv_istore (lv' := [(4, .int (A 40 (x1.toInt + 10).toNat)), (3, .int (A 40 (x1.toInt + x2.toInt + 17).toNat)), (0, .ref a0), (1, .int x1), (2, .int x2)]) hx hb dX12_settle_57 hl (by decide) rfl (fun ls hl => ?_)
      refine lv_aload_n hx hb dX12_settle_59 rfl (lv_at hl 2 rfl) ?_
      refine mg_0 C hs hP ha0 hk0 wf_X12_8 dX12_settle_60 ?_
      refine lv_iload_n hx hb dX12_settle_63 rfl (lv_at hl 3 rfl) ?_
      refine lv_bipush (v := 15) hx hb dX12_settle_64 (by decide) ?_
      refine lv_iadd hx hb dX12_settle_66 ?_
      refine lv_topi (fun x_81 ex_81 => ?_)
      refine lv_iload_n hx hb dX12_settle_67 rfl (lv_at hl 4 rfl) ?_
      refine lv_iadd hx hb dX12_settle_68 ?_
      refine lv_topi (fun x_82 ex_82 => ?_)
      obtain ⟨f_81, l_81, u_81⟩ := z_add ex_81 rfl ti_15
      try replace f_81 : x_81.toInt = x1.toInt + 15 := by omega
      obtain ⟨f_82, l_82, u_82⟩ := z_add ex_82 rfl rfl
      try replace f_82 : x_82.toInt = x_81.toInt + x2.toInt := by omega
      have hi_hr_83 : x_82.toInt = x1.toInt + (x2.toInt + 15) := by omega
      have hr_83 := z_cell (lo := 10) (hi := 19) hp0 hi_hr_83 (by omega) (by decide)
      have hin_84 : vp_in x_82 (zn K (zr K a0 0)) := vp_in_iff.mpr (by rw [(hf_1.2.2 (by decide))]; exact hr_83.in)
      refine mld_40 C hs hP hf_1.1 hf_1.2.1 hin_84 dX12_settle_69 ?_
      have ep_85 : x_82.toNatClampNeg = (x1.toInt + x2.toInt + 15).toNat := z_pos (hi_hr_83.trans (by omega))
      rw [ep_85]
      have ev_86 : A_74 40 (x1.toInt + x2.toInt + 15).toNat = A 40 (x1.toInt + x2.toInt + 15).toNat := by rw [hA_74 40 (by decide), FA_11 40 (by decide)]
      rw [ev_86]
      refine lv_istore (lv' := [(5, .int (A 40 (x1.toInt + x2.toInt + 15).toNat)), (4, .int (A 40 (x1.toInt + 10).toNat)), (3, .int (A 40 (x1.toInt + x2.toInt + 17).toNat)), (0, .ref a0), (1, .int x1), (2, .int x2)]) hx hb dX12_settle_70 hl (by decide) rfl (fun ls hl => ?_)
      refine lv_iload hx hb dX12_settle_72 (lv_at hl 1 rfl) ?_
      refine bz_le (tgt := 118) hx hb rfl dX12_settle_74 (by decide) (fun c_87 => ?_) (fun c_87 => ?_)
      · skip
        exact J_118_61 f_74 A_74 _ _ (A 40 (x1.toInt + x2.toInt + 17).toNat) _ (by omega) FA FF hT hP hS (lv_sub hl [3, 4, 5, 2] rfl)
      · skip
        refine lv_aload_n hx hb dX12_settle_77 rfl (lv_at hl 3 rfl) ?_
        refine mg_0 C hs hP ha0 hk0 wf_X12_8 dX12_settle_78 ?_
        refine lv_iload_n hx hb dX12_settle_81 rfl (lv_at hl 4 rfl) ?_
        refine lv_bipush (v := 12) hx hb dX12_settle_82 (by decide) ?_
        refine lv_iadd hx hb dX12_settle_84 ?_
        refine lv_topi (fun x_88 ex_88 => ?_)
        obtain ⟨f_88, l_88, u_88⟩ := z_add ex_88 rfl ti_12
        try replace f_88 : x_88.toInt = x1.toInt + 12 := by omega
        have hi_hr_89 : x_88.toInt = x1.toInt + (12) := by omega
        have hr_89 := z_cell (lo := 10) (hi := 19) hp0 hi_hr_89 (by decide) (by decide)
        have hin_90 : vp_in x_88 (zn K (zr K a0 0)) := vp_in_iff.mpr (by rw [(hf_1.2.2 (by decide))]; exact hr_89.in)
        refine mld_40 C hs hP hf_1.1 hf_1.2.1 hin_90 dX12_settle_85 ?_
        have ep_91 : x_88.toNatClampNeg = (x1.toInt + 12).toNat := z_pos (hi_hr_89.trans (by omega))
        rw [ep_91]
        have ev_92 : A_74 40 (x1.toInt + 12).toNat = A 40 (x1.toInt + 12).toNat := by rw [hA_74 40 (by decide), FA_11 40 (by decide)]
        rw [ev_92]
        refine lv_iconst (v := 2) hx hb dX12_settle_86 (by decide) ?_
        refine lv_irem hx hb dX12_settle_87 (by decide) ?_
        refine lv_topi (fun x_93 ex_93 => ?_)
        refine lv_iload_n hx hb dX12_settle_88 rfl (lv_at hl 5 rfl) ?_
        refine bi_ne (tgt := 118) hx hb rfl rfl dX12_settle_89 (by decide) (fun c_94 => ?_) (fun c_94 => ?_)
        · skip
          exact J_118_61 f_74 A_74 _ _ (A 40 (x1.toInt + x2.toInt + 17).toNat) _ (by omega) FA FF hT hP hS (lv_sub hl [3, 4, 5, 2] rfl)
        · skip
          refine lv_iload hx hb dX12_settle_92 (lv_at hl 0 rfl) ?_
          refine lv_iload hx hb dX12_settle_94 (lv_at hl 1 rfl) ?_
          have J_117_101 : ∀ (y_100 : Int32) (ls : Array Slot), lv_has ls 6 [(0, .ref a0), (1, .int x1), (2, .int x2), (3, .int (A 40 (x1.toInt + x2.toInt + 17).toNat)), (4, .int (A 40 (x1.toInt + 10).toNat)), (5, .int (A 40 (x1.toInt + x2.toInt + 15).toNat))] → W p l e (rmd 1) s m args below meth c H locs 0 0 Q (F0 m 117 ls [.int y_100]) := by
            intro y_100 ls hl
            refine lv_istore_n (lv' := [(3, .int y_100), (0, .ref a0), (1, .int x1), (2, .int x2), (4, .int (A 40 (x1.toInt + 10).toNat)), (5, .int (A 40 (x1.toInt + x2.toInt + 15).toNat))]) hx hb dX12_settle_117 rfl hl (by decide) rfl (fun ls hl => ?_)
            exact J_118_61 f_74 A_74 _ _ y_100 _ (by omega) FA FF hT hP hS (lv_sub hl [1, 2, 3, 0] rfl)
          refine bi_lt (tgt := 109) hx hb rfl rfl dX12_settle_96 (by decide) (fun c_95 => ?_) (fun c_95 => ?_)
          · skip
            refine lv_bipush (v := 10) hx hb dX12_settle_109 (by decide) ?_
            refine lv_iload hx hb dX12_settle_111 (lv_at hl 0 rfl) ?_
            refine lv_iload hx hb dX12_settle_113 (lv_at hl 1 rfl) ?_
            refine lv_isub hx hb dX12_settle_115 ?_
            refine lv_topi (fun x_103 ex_103 => ?_)
            refine lv_imul hx hb dX12_settle_116 ?_
            refine lv_topi (fun x_104 ex_104 => ?_)
            exact J_117_101 x_104 _ (lv_sub hl [3, 4, 5, 2, 1, 0] rfl)
          · skip
            refine lv_iload_n hx hb dX12_settle_99 rfl (lv_at hl 2 rfl) ?_
            refine lv_bipush (v := 10) hx hb dX12_settle_100 (by decide) ?_
            refine lv_iload hx hb dX12_settle_102 (lv_at hl 1 rfl) ?_
            refine lv_imul hx hb dX12_settle_104 ?_
            refine lv_topi (fun x_105 ex_105 => ?_)
            refine lv_iadd hx hb dX12_settle_105 ?_
            refine lv_topi (fun x_106 ex_106 => ?_)
            refine lv_goto (tgt := 117) hx hb dX12_settle_106 (by decide) ?_
            exact J_117_101 x_106 _ (lv_sub hl [3, 4, 5, 2, 1, 0] rfl)
  refine bi_ne (tgt := 18) hx hb rfl ti_4 dX12_settle_9 (by decide) (fun c_7 => ?_) (fun c_7 => ?_)
  · skip
    exact J_18_10 f A _ _ _ (by omega) FA FF hT hP hS (lv_sub hl [0, 1, 2] rfl)
  · skip
    refine lv_aload_n hx hb dX12_settle_12 rfl (lv_at hl 0 rfl) ?_
    refine lv_bipush (v := 53) hx hb dX12_settle_13 (by decide) ?_
    have hq_107 : (f 11).toInt ≤ 2000000000 := by (try simp only [ti_53]); first | assumption | omega | (intros; omega)
    refine mcV (zrV (As := [.int 53]) (b := a0) (rest := []) C hs hP hS (c_X12_body l D K hM f A hT a0 ha0 hk0 53 hq_107) m_X12_body wm_X12_124 (zrecv hs hP ha0 (zF_11 hk0) rfl) ⟨by decide, by decide⟩ hl.1 (Nat.le_of_ble_eq_true rfl) dX12_settle_15) hS (fun f_108 A_108 H locs p_108 hP hS => ?_)
    obtain ⟨hT, hA_108, hF_108, pp_108⟩ := p_108
    have pp_108 : (f 11).toInt ≤ (f_108 11).toInt ∧ (f_108 11).toInt ≤ (f 11).toInt + 1 ∧ ((f 12).toInt ≠ 0 → (f_108 11).toInt = (f 11).toInt) := pp_108
    try simp only [ti_53] at pp_108
    have FA := frA FA hA_108 (by decide)
    have FF := frF FF hF_108 (by decide)
    exact J_18_10 f_108 A_108 _ _ _ (by omega) FA FF hT hP hS (lv_sub hl [0, 1, 2] rfl)
set_option maxHeartbeats 4000000 in
set_option maxRecDepth 100000 in
theorem c_X12_sizeOf (l : Launch) (D : va_G) (K : zK) (hM : mK K) (f : Nat → Int32) (A : Nat → Nat → Int32) (hT : mT f A) (a0 : Nat) (ha0 : a0 ∈ zl K) (hk0 : zk K a0 = 11) (x1 : Int32) (hp0 : zRow x1.toInt) : Met l yX12_sizeOf (zc yX12_sizeOf cX12_sizeOf 3 (some .int)) (rmd 0) (va_Pc [.ref a0, .int x1] (zB D K (mV K f A))) (vp_Si (fun r => 0 ≤ r.toInt ∧ r.toInt ≤ 15)) 0 0 (fun _ => False) := by
  refine zin (by decide) (Nat.le_of_ble_eq_true rfl) ?_
  intro p e s m args below meth c ls Q hQ C hr hlk hP hs hl
  have C : CallFix p m c cX12_sizeOf 3 s args zw RX12 := C
  obtain ⟨hx, hb, hml, hown, hts⟩ := id C
  have hO := hM.1
  have hS : va_S (zA K) s.heap s.heap [] := va_S.rf
  have hl : lv_has ls 3 [(0, .ref a0), (1, .int x1)] := hl
  have hb0 := hp0.lin
  refine lv_aload_n hx hb dX12_sizeOf_0 rfl (lv_at hl 0 rfl) ?_
  refine mg_0 C hs hP ha0 hk0 wf_X12_8 dX12_sizeOf_1 ?_
  have hf_1 := hO.r (j := 0) ha0 hk0 (rfl : zX 11 0 = some (40, 47730))
  refine lv_iload_n hx hb dX12_sizeOf_4 rfl (lv_at hl 1 rfl) ?_
  refine lv_iconst (v := 1) hx hb dX12_sizeOf_5 (by decide) ?_
  refine lv_iadd hx hb dX12_sizeOf_6 ?_
  refine lv_topi (fun x_2 ex_2 => ?_)
  have g_3 := z_rng x1
  obtain ⟨f_2, l_2, u_2⟩ := z_add ex_2 rfl ti_1
  try replace f_2 : x_2.toInt = x1.toInt + 1 := by omega
  have hi_hr_4 : x_2.toInt = x1.toInt + (1) := by omega
  have hr_4 := z_cell (lo := 1) (hi := 1) hp0 hi_hr_4 (by decide) (by decide)
  have hin_5 : vp_in x_2 (zn K (zr K a0 0)) := vp_in_iff.mpr (by rw [(hf_1.2.2 (by decide))]; exact hr_4.in)
  refine mld_40 C hs hP hf_1.1 hf_1.2.1 hin_5 dX12_sizeOf_7 ?_
  have ep_6 : x_2.toNatClampNeg = (x1.toInt + 1).toNat := z_pos (hi_hr_4.trans (by omega))
  rw [ep_6]
  have tv_7 := rv_1 hT hr_4
  rw [ep_6] at tv_7
  refine lv_istore_n (lv' := [(2, .int (A 40 (x1.toInt + 1).toNat)), (0, .ref a0), (1, .int x1)]) hx hb dX12_sizeOf_8 rfl hl (by decide) rfl (fun ls hl => ?_)
  refine lv_aload_n hx hb dX12_sizeOf_9 rfl (lv_at hl 1 rfl) ?_
  refine mg_0 C hs hP ha0 hk0 wf_X12_8 dX12_sizeOf_10 ?_
  refine lv_iload_n hx hb dX12_sizeOf_13 rfl (lv_at hl 2 rfl) ?_
  refine lv_iconst (v := 2) hx hb dX12_sizeOf_14 (by decide) ?_
  refine lv_iadd hx hb dX12_sizeOf_15 ?_
  refine lv_topi (fun x_8 ex_8 => ?_)
  obtain ⟨f_8, l_8, u_8⟩ := z_add ex_8 rfl ti_2
  try replace f_8 : x_8.toInt = x1.toInt + 2 := by omega
  have hi_hr_9 : x_8.toInt = x1.toInt + (2) := by omega
  have hr_9 := z_cell (lo := 2) (hi := 8) hp0 hi_hr_9 (by decide) (by decide)
  have hin_10 : vp_in x_8 (zn K (zr K a0 0)) := vp_in_iff.mpr (by rw [(hf_1.2.2 (by decide))]; exact hr_9.in)
  refine mld_40 C hs hP hf_1.1 hf_1.2.1 hin_10 dX12_sizeOf_16 ?_
  have ep_11 : x_8.toNatClampNeg = (x1.toInt + 2).toNat := z_pos (hi_hr_9.trans (by omega))
  rw [ep_11]
  refine lv_iconst (v := 4) hx hb dX12_sizeOf_17 (by decide) ?_
  refine bi_eq (tgt := 27) hx hb rfl ti_4 dX12_sizeOf_18 (by decide) (fun c_12 => ?_) (fun c_12 => ?_)
  · skip
    refine lv_iload_n hx hb dX12_sizeOf_27 rfl (lv_at hl 0 rfl) ?_
    refine lv_bipush (v := 8) hx hb dX12_sizeOf_28 (by decide) ?_
    refine bi_ge (tgt := 37) hx hb rfl ti_8 dX12_sizeOf_30 (by decide) (fun c_13 => ?_) (fun c_13 => ?_)
    · skip
      refine lv_iload_n hx hb dX12_sizeOf_37 rfl (lv_at hl 0 rfl) ?_
      refine lv_bipush (v := 8) hx hb dX12_sizeOf_38 (by decide) ?_
      refine lv_idiv hx hb dX12_sizeOf_40 (by decide) ?_
      refine lv_topi (fun x_14 ex_14 => ?_)
      have g_15 := z_rng (A 40 (x1.toInt + 1).toNat)
      have f_d14 := z_div ex_14 rfl ti_8 (by omega) (by decide)
      exact zaS hQ hx hb hr hlk (by (try dsimp only); (first | omega | (intro h9; omega) | (simp; done) | (refine ⟨?_, ?_⟩ <;> intros <;> first | trivial | omega) | (refine ⟨?_, ?_, ?_⟩ <;> intros <;> first | trivial | omega))) dX12_sizeOf_41
    · skip
      refine lv_iconst (v := 1) hx hb dX12_sizeOf_33 (by decide) ?_
      refine lv_goto (tgt := 41) hx hb dX12_sizeOf_34 (by decide) ?_
      exact zaS hQ hx hb hr hlk (by (try dsimp only); (try simp only [ti_1]); (first | omega | (intro h9; omega) | (simp; done) | (refine ⟨?_, ?_⟩ <;> intros <;> first | trivial | omega) | (refine ⟨?_, ?_, ?_⟩ <;> intros <;> first | trivial | omega))) dX12_sizeOf_41
  · skip
    refine lv_iload_n hx hb dX12_sizeOf_21 rfl (lv_at hl 0 rfl) ?_
    refine lv_iconst (v := 4) hx hb dX12_sizeOf_22 (by decide) ?_
    refine lv_idiv hx hb dX12_sizeOf_23 (by decide) ?_
    refine lv_topi (fun x_16 ex_16 => ?_)
    refine lv_goto (tgt := 41) hx hb dX12_sizeOf_24 (by decide) ?_
    have g_17 := z_rng (A 40 (x1.toInt + 1).toNat)
    have f_d16 := z_div ex_16 rfl ti_4 (by omega) (by decide)
    exact zaS hQ hx hb hr hlk (by (try dsimp only); (first | omega | (intro h9; omega) | (simp; done) | (refine ⟨?_, ?_⟩ <;> intros <;> first | trivial | omega) | (refine ⟨?_, ?_, ?_⟩ <;> intros <;> first | trivial | omega))) dX12_sizeOf_41
set_option maxHeartbeats 4000000 in
set_option maxRecDepth 100000 in
theorem c_X12_isOpen (l : Launch) (D : va_G) (K : zK) (hM : mK K) (f : Nat → Int32) (A : Nat → Nat → Int32) (hT : mT f A) (a0 : Nat) (ha0 : a0 ∈ zl K) (hk0 : zk K a0 = 11) (x1 : Int32) (x2 : Int32) (hp0 : zRow x1.toInt) (hp1 : 0 ≤ x2.toInt ∧ x2.toInt ≤ 3) : Met l yX12_isOpen (zc yX12_isOpen cX12_isOpen 3 (some .boolean)) (rmd 0) (va_Pc [.ref a0, .int x1, .int x2] (zB D K (mV K f A))) (vp_Si (fun r => (r = 0 ∨ r = 1) ∧ (r.toInt ≠ 0 → (A 40 (x1.toInt + 5).toNat).toInt = 1 ∧ (A 40 (x1.toInt + x2.toInt + 35).toNat).toInt = 1))) 0 0 (fun _ => False) := by
  refine zin (by decide) (Nat.le_of_ble_eq_true rfl) ?_
  intro p e s m args below meth c ls Q hQ C hr hlk hP hs hl
  have C : CallFix p m c cX12_isOpen 3 s args zw RX12 := C
  obtain ⟨hx, hb, hml, hown, hts⟩ := id C
  have hO := hM.1
  have hS : va_S (zA K) s.heap s.heap [] := va_S.rf
  have hl : lv_has ls 3 [(0, .ref a0), (1, .int x1), (2, .int x2)] := hl
  have hb0 := hp0.lin
  refine lv_aload_n hx hb dX12_isOpen_0 rfl (lv_at hl 0 rfl) ?_
  refine mg_0 C hs hP ha0 hk0 wf_X12_8 dX12_isOpen_1 ?_
  have hf_1 := hO.r (j := 0) ha0 hk0 (rfl : zX 11 0 = some (40, 47730))
  refine lv_iload_n hx hb dX12_isOpen_4 rfl (lv_at hl 1 rfl) ?_
  refine lv_iconst (v := 5) hx hb dX12_isOpen_5 (by decide) ?_
  refine lv_iadd hx hb dX12_isOpen_6 ?_
  refine lv_topi (fun x_2 ex_2 => ?_)
  have g_3 := z_rng x1
  obtain ⟨f_2, l_2, u_2⟩ := z_add ex_2 rfl ti_5
  try replace f_2 : x_2.toInt = x1.toInt + 5 := by omega
  have hi_hr_4 : x_2.toInt = x1.toInt + (5) := by omega
  have hr_4 := z_cell (lo := 2) (hi := 8) hp0 hi_hr_4 (by decide) (by decide)
  have hin_5 : vp_in x_2 (zn K (zr K a0 0)) := vp_in_iff.mpr (by rw [(hf_1.2.2 (by decide))]; exact hr_4.in)
  refine mld_40 C hs hP hf_1.1 hf_1.2.1 hin_5 dX12_isOpen_7 ?_
  have ep_6 : x_2.toNatClampNeg = (x1.toInt + 5).toNat := z_pos (hi_hr_4.trans (by omega))
  rw [ep_6]
  refine lv_iconst (v := 1) hx hb dX12_isOpen_8 (by decide) ?_
  refine bi_ne (tgt := 43) hx hb rfl ti_1 dX12_isOpen_9 (by decide) (fun c_7 => ?_) (fun c_7 => ?_)
  · skip
    refine lv_iconst (v := 0) hx hb dX12_isOpen_43 (by decide) ?_
    exact zaSz hQ hx hb hr hlk (Or.inl rfl) ⟨(Or.inl rfl), (by (try dsimp only); (try simp only [ti_0]); (first | omega | (intro h9; omega) | (simp; done) | (refine ⟨?_, ?_⟩ <;> intros <;> first | trivial | omega) | (refine ⟨?_, ?_, ?_⟩ <;> intros <;> first | trivial | omega)))⟩ dX12_isOpen_44
  · skip
    refine lv_aload_n hx hb dX12_isOpen_12 rfl (lv_at hl 0 rfl) ?_
    refine mg_0 C hs hP ha0 hk0 wf_X12_8 dX12_isOpen_13 ?_
    refine lv_iload_n hx hb dX12_isOpen_16 rfl (lv_at hl 1 rfl) ?_
    refine lv_bipush (v := 14) hx hb dX12_isOpen_17 (by decide) ?_
    refine lv_iadd hx hb dX12_isOpen_19 ?_
    refine lv_topi (fun x_8 ex_8 => ?_)
    obtain ⟨f_8, l_8, u_8⟩ := z_add ex_8 rfl ti_14
    try replace f_8 : x_8.toInt = x1.toInt + 14 := by omega
    have hi_hr_9 : x_8.toInt = x1.toInt + (14) := by omega
    have hr_9 := z_cell (lo := 10) (hi := 19) hp0 hi_hr_9 (by decide) (by decide)
    have hin_10 : vp_in x_8 (zn K (zr K a0 0)) := vp_in_iff.mpr (by rw [(hf_1.2.2 (by decide))]; exact hr_9.in)
    refine mld_40 C hs hP hf_1.1 hf_1.2.1 hin_10 dX12_isOpen_20 ?_
    have ep_11 : x_8.toNatClampNeg = (x1.toInt + 14).toNat := z_pos (hi_hr_9.trans (by omega))
    rw [ep_11]
    refine bz_ne (tgt := 43) hx hb rfl dX12_isOpen_21 (by decide) (fun c_12 => ?_) (fun c_12 => ?_)
    · skip
      refine lv_iconst (v := 0) hx hb dX12_isOpen_43 (by decide) ?_
      exact zaSz hQ hx hb hr hlk (Or.inl rfl) ⟨(Or.inl rfl), (by (try dsimp only); (try simp only [ti_0]); (first | omega | (intro h9; omega) | (simp; done) | (refine ⟨?_, ?_⟩ <;> intros <;> first | trivial | omega) | (refine ⟨?_, ?_, ?_⟩ <;> intros <;> first | trivial | omega)))⟩ dX12_isOpen_44
    · skip
      refine lv_aload_n hx hb dX12_isOpen_24 rfl (lv_at hl 0 rfl) ?_
      refine mg_0 C hs hP ha0 hk0 wf_X12_8 dX12_isOpen_25 ?_
      refine lv_iload_n hx hb dX12_isOpen_28 rfl (lv_at hl 1 rfl) ?_
      refine lv_bipush (v := 35) hx hb dX12_isOpen_29 (by decide) ?_
      refine lv_iadd hx hb dX12_isOpen_31 ?_
      refine lv_topi (fun x_13 ex_13 => ?_)
      refine lv_iload_n hx hb dX12_isOpen_32 rfl (lv_at hl 2 rfl) ?_
      refine lv_iadd hx hb dX12_isOpen_33 ?_
      refine lv_topi (fun x_14 ex_14 => ?_)
      obtain ⟨f_13, l_13, u_13⟩ := z_add ex_13 rfl ti_35
      try replace f_13 : x_13.toInt = x1.toInt + 35 := by omega
      have g_15 := z_rng x2
      obtain ⟨f_14, l_14, u_14⟩ := z_add ex_14 rfl rfl
      try replace f_14 : x_14.toInt = x_13.toInt + x2.toInt := by omega
      have hi_hr_16 : x_14.toInt = x1.toInt + (x2.toInt + 35) := by omega
      have hr_16 := z_cell (lo := 35) (hi := 38) hp0 hi_hr_16 (by omega) (by decide)
      have hin_17 : vp_in x_14 (zn K (zr K a0 0)) := vp_in_iff.mpr (by rw [(hf_1.2.2 (by decide))]; exact hr_16.in)
      refine mld_40 C hs hP hf_1.1 hf_1.2.1 hin_17 dX12_isOpen_34 ?_
      have ep_18 : x_14.toNatClampNeg = (x1.toInt + x2.toInt + 35).toNat := z_pos (hi_hr_16.trans (by omega))
      rw [ep_18]
      have tv_19 := rv_35 hT hr_16
      rw [ep_18] at tv_19
      refine lv_iconst (v := 1) hx hb dX12_isOpen_35 (by decide) ?_
      refine bi_ne (tgt := 43) hx hb rfl ti_1 dX12_isOpen_36 (by decide) (fun c_20 => ?_) (fun c_20 => ?_)
      · skip
        refine lv_iconst (v := 0) hx hb dX12_isOpen_43 (by decide) ?_
        exact zaSz hQ hx hb hr hlk (Or.inl rfl) ⟨(Or.inl rfl), (by (try dsimp only); (try simp only [ti_0]); (first | omega | (intro h9; omega) | (simp; done) | (refine ⟨?_, ?_⟩ <;> intros <;> first | trivial | omega) | (refine ⟨?_, ?_, ?_⟩ <;> intros <;> first | trivial | omega)))⟩ dX12_isOpen_44
      · skip
        refine lv_iconst (v := 1) hx hb dX12_isOpen_39 (by decide) ?_
        refine lv_goto (tgt := 44) hx hb dX12_isOpen_40 (by decide) ?_
        exact zaSz hQ hx hb hr hlk (Or.inr rfl) ⟨(Or.inr rfl), (by (try dsimp only); (try simp only [ti_1]); (first | omega | (intro h9; omega) | (simp; done) | (refine ⟨?_, ?_⟩ <;> intros <;> first | trivial | omega) | (refine ⟨?_, ?_, ?_⟩ <;> intros <;> first | trivial | omega)))⟩ dX12_isOpen_44
