set_option maxHeartbeats 4000000 in
set_option maxRecDepth 100000 in
theorem c_X12_has (l : Launch) (D : va_G) (K : zK) (hM : mK K) (f : Nat → Int32) (A : Nat → Nat → Int32) (hT : mT f A) (a0 : Nat) (ha0 : a0 ∈ zl K) (hk0 : zk K a0 = 11) (x1 : Int32) (x2 : Int32) (hp0 : zRow x1.toInt) : Met l yX12_has (zc yX12_has cX12_has 4 (some .boolean)) (rmd 1) (va_Pc [.ref a0, .int x1, .int x2] (zB D K (mV K f A))) (vp_Si (fun r => (r = 0 ∨ r = 1))) 0 0 (fun _ => False) := by
  refine zin (by decide) (Nat.le_of_ble_eq_true rfl) ?_
  intro p e s m args below meth c ls Q hQ C hr hlk hP hs hl
  have C : CallFix p m c cX12_has 4 s args zw RX12 := C
  obtain ⟨hx, hb, hml, hown, hts⟩ := id C
  have hO := hM.1
  have hS : va_S (zA K) s.heap s.heap [] := va_S.rf
  have hl : lv_has ls 4 [(0, .ref a0), (1, .int x1), (2, .int x2)] := hl
  have hb0 := hp0.lin
  refine lv_iconst (v := 0) hx hb dX12_has_0 (by decide) ?_
  refine lv_istore_n (lv' := [(3, .int 0), (0, .ref a0), (1, .int x1), (2, .int x2)]) hx hb dX12_has_1 rfl hl (by decide) rfl (fun ls hl => ?_)
  have L_2_2 : ∀ (n_2 : Nat) (y_1 : Int32) (ls : Array Slot), (2147483648 - y_1.toInt).toNat < n_2 → 0 ≤ y_1.toInt → lv_has ls 4 [(3, .int y_1), (0, .ref a0), (1, .int x1), (2, .int x2)] → W p l e (rmd 1) s m args below meth c s.heap [] 0 0 Q (F0 m 2 ls []) := by
    intro n_2
    induction n_2 with
    | zero => intro y_1 ls hm_2; exact absurd hm_2 (Nat.not_lt_zero _)
    | succ n_2 ih_2 =>
      intro y_1 ls hm_2 iv_3_0 hl
      refine lv_iload_n hx hb dX12_has_2 rfl (lv_at hl 0 rfl) ?_
      refine lv_aload_n hx hb dX12_has_3 rfl (lv_at hl 1 rfl) ?_
      refine mg_14 C hs hP ha0 hk0 wf_X12_117 dX12_has_4 ?_
      have tf_4 : 0 ≤ (f 14).toInt ∧ (f 14).toInt ≤ 60 := hT.1 14
      refine bi_ge (tgt := 33) hx hb rfl rfl dX12_has_7 (by decide) (fun c_5 => ?_) (fun c_5 => ?_)
      · skip
        refine lv_iconst (v := 0) hx hb dX12_has_33 (by decide) ?_
        exact zaSz hQ hx hb hr hlk (Or.inl rfl) (Or.inl rfl) dX12_has_34
      · skip
        refine lv_aload_n hx hb dX12_has_10 rfl (lv_at hl 1 rfl) ?_
        refine lv_iload_n hx hb dX12_has_11 rfl (lv_at hl 2 rfl) ?_
        refine lv_aload_n hx hb dX12_has_12 rfl (lv_at hl 1 rfl) ?_
        refine mg_13 C hs hP ha0 hk0 wf_X12_36 dX12_has_13 ?_
        have hf_6 := hO.r (j := 13) ha0 hk0 (rfl : zX 11 13 = some (53, 60))
        refine lv_iload_n hx hb dX12_has_16 rfl (lv_at hl 0 rfl) ?_
        have g_8 := z_rng y_1
        have hin_7 : vp_in y_1 (zn K (zr K a0 13)) := vp_in_iff.mpr (by rw [(hf_6.2.2 (by decide))]; refine ⟨?_, ?_⟩ <;> omega)
        refine mld_53 C hs hP hf_6.1 hf_6.2.1 hin_7 dX12_has_17 ?_
        have tv_9 := ra_53 hT (vp_in_iff.mp hin_7).1 (by have h7 := (vp_in_iff.mp hin_7).2; rw [(hf_6.2.2 (by decide))] at h7; exact h7)
        have g_10 := z_rng x1
        have g_11 := z_rng (A 53 y_1.toNatClampNeg)
        have hq_12 : 0 ≤ (A 53 y_1.toNatClampNeg).toInt ∧ (A 53 y_1.toNatClampNeg).toInt ≤ 59 := by (first | assumption | omega | (intros; omega))
        refine zcS (zrV (As := [.int x1, .int (A 53 y_1.toNatClampNeg)]) (b := a0) (rest := []) C hs hP hS (c_X12_colour l D K hM f A hT a0 ha0 hk0 x1 (A 53 y_1.toNatClampNeg) hp0 hq_12) m_X12_colour wm_X12_120 (zrecv hs hP ha0 (zF_11 hk0) rfl) ⟨by decide, by decide⟩ hl.1 (Nat.le_of_ble_eq_true rfl) dX12_has_18) (fun x_13 p_13 => ?_)
        have pp_13 : x_13 = mcol (A 40) x1 (A 53 y_1.toNatClampNeg) := p_13
        have pq_13 := congrArg Int32.toInt pp_13
        refine lv_iload_n hx hb dX12_has_21 rfl (lv_at hl 3 rfl) ?_
        refine bi_ne (tgt := 27) hx hb rfl rfl dX12_has_22 (by decide) (fun c_14 => ?_) (fun c_14 => ?_)
        · skip
          obtain ⟨x_15, ex_15⟩ : ∃ y : Int32, y = y_1 + 1 := ⟨_, rfl⟩
          refine lv_iinc (v := x_15) (lv' := [(3, .int x_15), (0, .ref a0), (1, .int x1), (2, .int x2)]) hx hb dX12_has_27 hl (k := 0) rfl (by rw [ex_15]; rfl) (by decide) rfl (fun ls hl => ?_)
          refine lv_goto (tgt := 2) hx hb dX12_has_30 (by decide) ?_
          obtain ⟨f_15, l_15, u_15⟩ := z_add ex_15 rfl ti_1
          try replace f_15 : x_15.toInt = y_1.toInt + 1 := by omega
          clear l_15 u_15
          have g_16 := z_rng (f 14)
          have g_17 := z_rng x2
          have g_18 := z_rng x_13
          exact ih_2 x_15 _ (by omega) (by omega) (lv_sub hl [0, 1, 2, 3] rfl)
        · skip
          refine lv_iconst (v := 1) hx hb dX12_has_25 (by decide) ?_
          exact zaSz hQ hx hb hr hlk (Or.inr rfl) (Or.inr rfl) dX12_has_26
  exact L_2_2 _ 0 _ (Nat.lt_succ_self _) (by (try simp only [ti_0]); omega) (lv_sub hl [0, 1, 2, 3] rfl)
set_option maxHeartbeats 4000000 in
set_option maxRecDepth 100000 in
theorem c_X12_hasOther (l : Launch) (D : va_G) (K : zK) (hM : mK K) (f : Nat → Int32) (A : Nat → Nat → Int32) (hT : mT f A) (a0 : Nat) (ha0 : a0 ∈ zl K) (hk0 : zk K a0 = 11) (x1 : Int32) (x2 : Int32) (hp0 : zRow x1.toInt) : Met l yX12_hasOther (zc yX12_hasOther cX12_hasOther 5 (some .boolean)) (rmd 1) (va_Pc [.ref a0, .int x1, .int x2] (zB D K (mV K f A))) (vp_Si (fun r => (r = 0 ∨ r = 1))) 0 0 (fun _ => False) := by
  refine zin (by decide) (Nat.le_of_ble_eq_true rfl) ?_
  intro p e s m args below meth c ls Q hQ C hr hlk hP hs hl
  have C : CallFix p m c cX12_hasOther 5 s args zw RX12 := C
  obtain ⟨hx, hb, hml, hown, hts⟩ := id C
  have hO := hM.1
  have hS : va_S (zA K) s.heap s.heap [] := va_S.rf
  have hl : lv_has ls 5 [(0, .ref a0), (1, .int x1), (2, .int x2)] := hl
  have hb0 := hp0.lin
  refine lv_iconst (v := 0) hx hb dX12_hasOther_0 (by decide) ?_
  refine lv_istore_n (lv' := [(3, .int 0), (0, .ref a0), (1, .int x1), (2, .int x2)]) hx hb dX12_hasOther_1 rfl hl (by decide) rfl (fun ls hl => ?_)
  have L_2_2 : ∀ (n_2 : Nat) (y_1 : Int32) (ls : Array Slot), (2147483648 - y_1.toInt).toNat < n_2 → 0 ≤ y_1.toInt → lv_has ls 5 [(3, .int y_1), (0, .ref a0), (1, .int x1), (2, .int x2)] → W p l e (rmd 1) s m args below meth c s.heap [] 0 0 Q (F0 m 2 ls []) := by
    intro n_2
    induction n_2 with
    | zero => intro y_1 ls hm_2; exact absurd hm_2 (Nat.not_lt_zero _)
    | succ n_2 ih_2 =>
      intro y_1 ls hm_2 iv_3_0 hl
      refine lv_iload_n hx hb dX12_hasOther_2 rfl (lv_at hl 0 rfl) ?_
      refine lv_aload_n hx hb dX12_hasOther_3 rfl (lv_at hl 1 rfl) ?_
      refine mg_14 C hs hP ha0 hk0 wf_X12_117 dX12_hasOther_4 ?_
      have tf_4 : 0 ≤ (f 14).toInt ∧ (f 14).toInt ≤ 60 := hT.1 14
      refine bi_ge (tgt := 44) hx hb rfl rfl dX12_hasOther_7 (by decide) (fun c_5 => ?_) (fun c_5 => ?_)
      · skip
        refine lv_iconst (v := 0) hx hb dX12_hasOther_44 (by decide) ?_
        exact zaSz hQ hx hb hr hlk (Or.inl rfl) (Or.inl rfl) dX12_hasOther_45
      · skip
        refine lv_aload_n hx hb dX12_hasOther_10 rfl (lv_at hl 1 rfl) ?_
        refine lv_iload_n hx hb dX12_hasOther_11 rfl (lv_at hl 2 rfl) ?_
        refine lv_aload_n hx hb dX12_hasOther_12 rfl (lv_at hl 1 rfl) ?_
        refine mg_13 C hs hP ha0 hk0 wf_X12_36 dX12_hasOther_13 ?_
        have hf_6 := hO.r (j := 13) ha0 hk0 (rfl : zX 11 13 = some (53, 60))
        refine lv_iload_n hx hb dX12_hasOther_16 rfl (lv_at hl 0 rfl) ?_
        have g_8 := z_rng y_1
        have hin_7 : vp_in y_1 (zn K (zr K a0 13)) := vp_in_iff.mpr (by rw [(hf_6.2.2 (by decide))]; refine ⟨?_, ?_⟩ <;> omega)
        refine mld_53 C hs hP hf_6.1 hf_6.2.1 hin_7 dX12_hasOther_17 ?_
        have tv_9 := ra_53 hT (vp_in_iff.mp hin_7).1 (by have h7 := (vp_in_iff.mp hin_7).2; rw [(hf_6.2.2 (by decide))] at h7; exact h7)
        have g_10 := z_rng x1
        have g_11 := z_rng (A 53 y_1.toNatClampNeg)
        have hq_12 : 0 ≤ (A 53 y_1.toNatClampNeg).toInt ∧ (A 53 y_1.toNatClampNeg).toInt ≤ 59 := by (first | assumption | omega | (intros; omega))
        refine zcS (zrV (As := [.int x1, .int (A 53 y_1.toNatClampNeg)]) (b := a0) (rest := []) C hs hP hS (c_X12_colour l D K hM f A hT a0 ha0 hk0 x1 (A 53 y_1.toNatClampNeg) hp0 hq_12) m_X12_colour wm_X12_120 (zrecv hs hP ha0 (zF_11 hk0) rfl) ⟨by decide, by decide⟩ hl.1 (Nat.le_of_ble_eq_true rfl) dX12_hasOther_18) (fun x_13 p_13 => ?_)
        have pp_13 : x_13 = mcol (A 40) x1 (A 53 y_1.toNatClampNeg) := p_13
        have pq_13 := congrArg Int32.toInt pp_13
        refine lv_istore (lv' := [(4, .int x_13), (3, .int y_1), (0, .ref a0), (1, .int x1), (2, .int x2)]) hx hb dX12_hasOther_21 hl (by decide) rfl (fun ls hl => ?_)
        refine lv_iload hx hb dX12_hasOther_23 (lv_at hl 0 rfl) ?_
        refine lv_iload_n hx hb dX12_hasOther_25 rfl (lv_at hl 4 rfl) ?_
        refine bi_eq (tgt := 38) hx hb rfl rfl dX12_hasOther_26 (by decide) (fun c_14 => ?_) (fun c_14 => ?_)
        · skip
          obtain ⟨x_15, ex_15⟩ : ∃ y : Int32, y = y_1 + 1 := ⟨_, rfl⟩
          refine lv_iinc (v := x_15) (lv' := [(3, .int x_15), (4, .int x_13), (0, .ref a0), (1, .int x1), (2, .int x2)]) hx hb dX12_hasOther_38 hl (k := 1) rfl (by rw [ex_15]; rfl) (by decide) rfl (fun ls hl => ?_)
          refine lv_goto (tgt := 2) hx hb dX12_hasOther_41 (by decide) ?_
          obtain ⟨f_15, l_15, u_15⟩ := z_add ex_15 rfl ti_1
          try replace f_15 : x_15.toInt = y_1.toInt + 1 := by omega
          clear l_15 u_15
          have g_16 := z_rng (f 14)
          have g_17 := z_rng x2
          have g_18 := z_rng x_13
          exact ih_2 x_15 _ (by omega) (by omega) (lv_sub hl [0, 2, 3, 4] rfl)
        · skip
          refine lv_iload hx hb dX12_hasOther_29 (lv_at hl 0 rfl) ?_
          refine lv_bipush (v := 6) hx hb dX12_hasOther_31 (by decide) ?_
          refine bi_eq (tgt := 38) hx hb rfl ti_6 dX12_hasOther_33 (by decide) (fun c_19 => ?_) (fun c_19 => ?_)
          · skip
            obtain ⟨x_20, ex_20⟩ : ∃ y : Int32, y = y_1 + 1 := ⟨_, rfl⟩
            refine lv_iinc (v := x_20) (lv' := [(3, .int x_20), (4, .int x_13), (0, .ref a0), (1, .int x1), (2, .int x2)]) hx hb dX12_hasOther_38 hl (k := 1) rfl (by rw [ex_20]; rfl) (by decide) rfl (fun ls hl => ?_)
            refine lv_goto (tgt := 2) hx hb dX12_hasOther_41 (by decide) ?_
            obtain ⟨f_20, l_20, u_20⟩ := z_add ex_20 rfl ti_1
            try replace f_20 : x_20.toInt = y_1.toInt + 1 := by omega
            clear l_20 u_20
            have g_21 := z_rng (f 14)
            have g_22 := z_rng x2
            have g_23 := z_rng x_13
            exact ih_2 x_20 _ (by omega) (by omega) (lv_sub hl [0, 2, 3, 4] rfl)
          · skip
            refine lv_iconst (v := 1) hx hb dX12_hasOther_36 (by decide) ?_
            exact zaSz hQ hx hb hr hlk (Or.inr rfl) (Or.inr rfl) dX12_hasOther_37
  exact L_2_2 _ 0 _ (Nat.lt_succ_self _) (by (try simp only [ti_0]); omega) (lv_sub hl [0, 1, 2, 3] rfl)
set_option maxHeartbeats 4000000 in
set_option maxRecDepth 100000 in
theorem c_X12_allows (l : Launch) (D : va_G) (K : zK) (hM : mK K) (f : Nat → Int32) (A : Nat → Nat → Int32) (hT : mT f A) (a0 : Nat) (ha0 : a0 ∈ zl K) (hk0 : zk K a0 = 11) (x1 : Int32) (x2 : Int32) (hp0 : zRow x1.toInt) (hp1 : 0 ≤ x2.toInt ∧ x2.toInt ≤ 59) (hp2 : (f 11).toInt ≤ 1990000000) : Met l yX12_allows (zc yX12_allows cX12_allows 7 (some .int)) (rmd 2) (va_Pc [.ref a0, .int x1, .int x2] (zB D K (mV K f A))) (mQi D K (fun r f' A' => mT f' A' ∧ (∀ k, k ∉ ([50] : List Nat) → A' k = A k) ∧ (∀ k, k ∉ ([11] : List Nat) → f' k = f k) ∧ (f 11).toInt ≤ (f' 11).toInt ∧ (f' 11).toInt ≤ (f 11).toInt + 3 ∧ ((f 12).toInt ≠ 0 → (f' 11).toInt = (f 11).toInt))) 0 0 (zA K) := by
  refine zin (by decide) (Nat.le_of_ble_eq_true rfl) ?_
  intro p e s m args below meth c ls Q hQ C hr hlk hP hs hl
  have C : CallFix p m c cX12_allows 7 s args zw RX12 := C
  obtain ⟨hx, hb, hml, hown, hts⟩ := id C
  have hO := hM.1
  have hS : va_S (zA K) s.heap s.heap [] := va_S.rf
  have FA : ∀ k, k ∉ ([50] : List Nat) → A k = A k := fun _ _ => rfl
  have FF : ∀ k, k ∉ ([11] : List Nat) → f k = f k := fun _ _ => rfl
  have hl : lv_has ls 7 [(0, .ref a0), (1, .int x1), (2, .int x2)] := hl
  have hb0 := hp0.lin
  refine lv_aload_n hx hb dX12_allows_0 rfl (lv_at hl 0 rfl) ?_
  refine mg_0 C hs hP ha0 hk0 wf_X12_8 dX12_allows_1 ?_
  have hf_1 := hO.r (j := 0) ha0 hk0 (rfl : zX 11 0 = some (40, 47730))
  refine lv_iload_n hx hb dX12_allows_4 rfl (lv_at hl 1 rfl) ?_
  refine lv_iconst (v := 3) hx hb dX12_allows_5 (by decide) ?_
  refine lv_iadd hx hb dX12_allows_6 ?_
  refine lv_topi (fun x_2 ex_2 => ?_)
  have hi_hr_3 : zEq x_2.toInt (x1.toInt + 3) := by
    have g_4 := z_rng x1
    obtain ⟨f_2, l_2, u_2⟩ := z_add ex_2 rfl ti_3
    try replace f_2 : x_2.toInt = x1.toInt + 3 := by omega
    clear l_2 u_2
    show x_2.toInt = (x1.toInt + 3)
    omega
  have hl_hr_3 : (3 : Int) ≤ 3 ∧ 3 ≤ (3 : Int) := by decide
  have hid_hr_3 : (x1.toInt + 3) = x1.toInt + (3) := by simp only [Int.add_assoc, Int.add_sub_assoc]
  have hr_3 := z_cell (lo := 2) (hi := 8) hp0 hi_hr_3 hid_hr_3 hl_hr_3 (by decide)
  replace hid_hr_3 : zEq (x1.toInt + 3) (x1.toInt + (3)) := hid_hr_3
  have hin_5 : vp_in x_2 (zn K (zr K a0 0)) := vp_in_iff.mpr (by rw [(hf_1.2.2 (by decide))]; exact hr_3.in)
  refine mld_40 C hs hP hf_1.1 hf_1.2.1 hin_5 dX12_allows_7 ?_
  have ep_6 : x_2.toNatClampNeg = (x1.toInt + 3).toNat := z_posE hi_hr_3
  rw [ep_6]
  refine lv_istore_n (lv' := [(3, .int (A 40 (x1.toInt + 3).toNat)), (0, .ref a0), (1, .int x1), (2, .int x2)]) hx hb dX12_allows_8 rfl hl (by decide) rfl (fun ls hl => ?_)
  refine lv_iload_n hx hb dX12_allows_9 rfl (lv_at hl 0 rfl) ?_
  refine lv_iconst (v := 1) hx hb dX12_allows_10 (by decide) ?_
  have J_24_10 : ∀ (y_9 : Int32) (ls : Array Slot), (y_9 = 0 ∨ y_9 = 1) → lv_has ls 7 [(0, .ref a0), (1, .int x1), (2, .int x2), (3, .int (A 40 (x1.toInt + 3).toNat))] → W p l e (rmd 2) s m args below meth c s.heap [] 0 0 Q (F0 m 24 ls [.int y_9]) := by
    intro y_9 ls hb_y_9 hl
    refine lv_istore (lv' := [(4, .int y_9), (0, .ref a0), (1, .int x1), (2, .int x2), (3, .int (A 40 (x1.toInt + 3).toNat))]) hx hb dX12_allows_24 hl (by decide) rfl (fun ls hl => ?_)
    refine lv_aload_n hx hb dX12_allows_26 rfl (lv_at hl 1 rfl) ?_
    refine mg_0 C hs hP ha0 hk0 wf_X12_8 dX12_allows_27 ?_
    refine lv_iload_n hx hb dX12_allows_30 rfl (lv_at hl 2 rfl) ?_
    refine lv_iconst (v := 2) hx hb dX12_allows_31 (by decide) ?_
    refine lv_iadd hx hb dX12_allows_32 ?_
    refine lv_topi (fun x_12 ex_12 => ?_)
    have hi_hr_13 : zEq x_12.toInt (x1.toInt + 2) := by
      have g_14 := z_rng x1
      obtain ⟨f_12, l_12, u_12⟩ := z_add ex_12 rfl ti_2
      try replace f_12 : x_12.toInt = x1.toInt + 2 := by omega
      clear l_12 u_12
      show x_12.toInt = (x1.toInt + 2)
      omega
    have hl_hr_13 : (2 : Int) ≤ 2 ∧ 2 ≤ (2 : Int) := by decide
    have hid_hr_13 : (x1.toInt + 2) = x1.toInt + (2) := by simp only [Int.add_assoc, Int.add_sub_assoc]
    have hr_13 := z_cell (lo := 2) (hi := 8) hp0 hi_hr_13 hid_hr_13 hl_hr_13 (by decide)
    replace hid_hr_13 : zEq (x1.toInt + 2) (x1.toInt + (2)) := hid_hr_13
    have hin_15 : vp_in x_12 (zn K (zr K a0 0)) := vp_in_iff.mpr (by rw [(hf_1.2.2 (by decide))]; exact hr_13.in)
    refine mld_40 C hs hP hf_1.1 hf_1.2.1 hin_15 dX12_allows_33 ?_
    have ep_16 : x_12.toNatClampNeg = (x1.toInt + 2).toNat := z_posE hi_hr_13
    rw [ep_16]
    refine lv_iconst (v := 4) hx hb dX12_allows_34 (by decide) ?_
    have J_44_20 : ∀ (f_21 : Nat → Int32) (A_21 : Nat → Nat → Int32) (H : Heap) (locs : List Loc) (ls : Array Slot), ((f 11).toInt ≤ (f_21 11).toInt ∧ (f_21 11).toInt ≤ (f 11).toInt + 1 ∧ ((f 12).toInt ≠ 0 → (f_21 11).toInt = (f 11).toInt)) → (∀ k, k ∉ ([50] : List Nat) → A_21 k = A k) → (∀ k, k ∉ ([11] : List Nat) → f_21 k = f k) → mT f_21 A_21 → va_P D vwCl (zW K (mV K f_21 A_21)) H → va_S (zA K) s.heap H locs → lv_has ls 7 [(0, .ref a0), (1, .int x1), (2, .int x2), (3, .int (A 40 (x1.toInt + 3).toNat)), (4, .int y_9)] → W p l e (rmd 2) s m args below meth c H locs 0 0 Q (F0 m 44 ls []) := by
      intro f_21 A_21 H locs ls iv_21_0 FA_21 FF_21 hT hP hS hl
      have FA := FA_21
      have FF := FF_21
      refine lv_iload hx hb dX12_allows_44 (lv_at hl 4 rfl) ?_
      have J_70_41 : ∀ (f_42 : Nat → Int32) (A_42 : Nat → Nat → Int32) (H : Heap) (locs : List Loc) (ls : Array Slot), ((f 11).toInt ≤ (f_42 11).toInt ∧ (f_42 11).toInt ≤ (f 11).toInt + 2 ∧ ((f 12).toInt ≠ 0 → (f_42 11).toInt = (f 11).toInt)) → (∀ k, k ∉ ([50] : List Nat) → A_42 k = A k) → (∀ k, k ∉ ([11] : List Nat) → f_42 k = f k) → mT f_42 A_42 → va_P D vwCl (zW K (mV K f_42 A_42)) H → va_S (zA K) s.heap H locs → lv_has ls 7 [(0, .ref a0), (1, .int x1), (2, .int x2), (3, .int (A 40 (x1.toInt + 3).toNat)), (4, .int y_9)] → W p l e (rmd 2) s m args below meth c H locs 0 0 Q (F0 m 70 ls []) := by
        intro f_42 A_42 H locs ls iv_42_0 FA_42 FF_42 hT hP hS hl
        have FA := FA_42
        have FF := FF_42
        refine lv_aload_n hx hb dX12_allows_70 rfl (lv_at hl 0 rfl) ?_
        refine lv_bipush (v := 21) hx hb dX12_allows_71 (by decide) ?_
        have hq_44 : (f_42 11).toInt ≤ 2000000000 := by ((try simp only [ti_21]); first | assumption | omega | (intros; omega))
        refine mcV (zrV (As := [.int 21]) (b := a0) (rest := []) C hs hP hS (c_X12_body l D K hM f_42 A_42 hT a0 ha0 hk0 21 hq_44) m_X12_body wm_X12_124 (zrecv hs hP ha0 (zF_11 hk0) rfl) ⟨by decide, by decide⟩ hl.1 (Nat.le_of_ble_eq_true rfl) dX12_allows_73) hS (fun f_45 A_45 H locs p_45 hP hS => ?_)
        obtain ⟨hT, hA_45, hF_45, pp_45⟩ := p_45
        have pp_45 : (f_42 11).toInt ≤ (f_45 11).toInt ∧ (f_45 11).toInt ≤ (f_42 11).toInt + 1 ∧ ((f_42 12).toInt ≠ 0 → (f_45 11).toInt = (f_42 11).toInt) := pp_45
        have ev_46 : f_42 12 = f 12 := by rw [FF_42 12 (by decide)]
        rw [ev_46] at pp_45
        try simp only [ti_21] at pp_45
        have FA := frA FA hA_45 (by decide)
        have FF := frF FF hF_45 (by decide)
        refine lv_aload_n hx hb dX12_allows_76 rfl (lv_at hl 0 rfl) ?_
        refine lv_iload_n hx hb dX12_allows_77 rfl (lv_at hl 1 rfl) ?_
        refine lv_iload_n hx hb dX12_allows_78 rfl (lv_at hl 2 rfl) ?_
        have g_47 := z_rng x1
        have g_48 := z_rng x2
        have hq_49 : 0 ≤ x2.toInt ∧ x2.toInt ≤ 59 := by (first | assumption | omega | (intros; omega))
        refine zcS (zrV (As := [.int x1, .int x2]) (b := a0) (rest := []) C hs hP hS (c_X12_colour l D K hM f_45 A_45 hT a0 ha0 hk0 x1 x2 hp0 hq_49) m_X12_colour wm_X12_120 (zrecv hs hP ha0 (zF_11 hk0) rfl) ⟨by decide, by decide⟩ hl.1 (Nat.le_of_ble_eq_true rfl) dX12_allows_79) (fun x_50 p_50 => ?_)
        have pp_50 : x_50 = mcol (A_45 40) x1 x2 := p_50
        have ev_51 : A_45 40 = A 40 := by rw [hA_45 40 (by decide), FA_42 40 (by decide)]
        rw [ev_51] at pp_50
        have pq_50 := congrArg Int32.toInt pp_50
        refine lv_istore (lv' := [(5, .int x_50), (0, .ref a0), (1, .int x1), (2, .int x2), (3, .int (A 40 (x1.toInt + 3).toNat)), (4, .int y_9)]) hx hb dX12_allows_82 hl (by decide) rfl (fun ls hl => ?_)
        refine lv_aload_n hx hb dX12_allows_84 rfl (lv_at hl 1 rfl) ?_
        refine mg_16 C hs hP ha0 hk0 wf_X12_127 dX12_allows_85 ?_
        have ev_52 : f_45 16 = f 16 := by rw [hF_45 16 (by decide), FF_42 16 (by decide)]
        rw [ev_52]
        have tf_53 : 0 ≤ (f 16).toInt ∧ (f 16).toInt ≤ 4 := by rw [← ev_52]; exact hT.1 16
        have J_106_65 : ∀ (y_64 : Int32) (ls : Array Slot), lv_has ls 7 [(0, .ref a0), (1, .int x1), (2, .int x2), (3, .int (A 40 (x1.toInt + 3).toNat)), (4, .int y_9), (5, .int x_50)] → W p l e (rmd 2) s m args below meth c H locs 0 0 Q (F0 m 106 ls [.int y_64]) := by
          intro y_64 ls hl
          refine lv_istore (lv' := [(6, .int y_64), (0, .ref a0), (1, .int x1), (2, .int x2), (3, .int (A 40 (x1.toInt + 3).toNat)), (4, .int y_9), (5, .int x_50)]) hx hb dX12_allows_106 hl (by decide) rfl (fun ls hl => ?_)
          refine lv_iload hx hb dX12_allows_108 (lv_at hl 6 rfl) ?_
          refine lv_iconst (v := 5) hx hb dX12_allows_110 (by decide) ?_
          refine bi_eq (tgt := 120) hx hb rfl ti_5 dX12_allows_111 (by decide) (fun c_67 => ?_) (fun c_67 => ?_)
          · skip
            refine lv_iconst (v := 0) hx hb dX12_allows_120 (by decide) ?_
            exact maI hQ hx hb hr hlk hP hS ⟨hT, FA, FF, (by (try dsimp only); (try simp only [ti_0]); (first | omega | (intro h9; omega) | (simp; done) | (refine ⟨?_, ?_⟩ <;> intros <;> first | trivial | omega) | (refine ⟨?_, ?_, ?_⟩ <;> intros <;> first | trivial | omega)))⟩ dX12_allows_121
          · skip
            refine lv_iload hx hb dX12_allows_114 (lv_at hl 0 rfl) ?_
            refine lv_iconst (v := 5) hx hb dX12_allows_116 (by decide) ?_
            refine bi_ne (tgt := 122) hx hb rfl ti_5 dX12_allows_117 (by decide) (fun c_68 => ?_) (fun c_68 => ?_)
            · skip
              refine lv_iload hx hb dX12_allows_122 (lv_at hl 0 rfl) ?_
              refine lv_iconst (v := (-1)) hx hb dX12_allows_124 (by decide) ?_
              refine bi_ne (tgt := 154) hx hb rfl ti_m1 dX12_allows_125 (by decide) (fun c_69 => ?_) (fun c_69 => ?_)
              · skip
                refine lv_iload hx hb dX12_allows_154 (lv_at hl 6 rfl) ?_
                refine lv_iload hx hb dX12_allows_156 (lv_at hl 0 rfl) ?_
                refine bi_eq (tgt := 173) hx hb rfl rfl dX12_allows_158 (by decide) (fun c_70 => ?_) (fun c_70 => ?_)
                · skip
                  refine lv_iload hx hb dX12_allows_173 (lv_at hl 5 rfl) ?_
                  refine bz_eq (tgt := 204) hx hb rfl dX12_allows_175 (by decide) (fun c_71 => ?_) (fun c_71 => ?_)
                  · skip
                    refine lv_iconst (v := 0) hx hb dX12_allows_204 (by decide) ?_
                    exact maI hQ hx hb hr hlk hP hS ⟨hT, FA, FF, (by (try dsimp only); (try simp only [ti_0]); (first | omega | (intro h9; omega) | (simp; done) | (refine ⟨?_, ?_⟩ <;> intros <;> first | trivial | omega) | (refine ⟨?_, ?_, ?_⟩ <;> intros <;> first | trivial | omega)))⟩ dX12_allows_205
                  · skip
                    refine lv_iload hx hb dX12_allows_178 (lv_at hl 6 rfl) ?_
                    refine lv_iload hx hb dX12_allows_180 (lv_at hl 0 rfl) ?_
                    refine bi_eq (tgt := 204) hx hb rfl rfl dX12_allows_182 (by decide) (fun c_72 => ?_) (fun c_72 => ?_)
                    · skip
                      refine lv_iconst (v := 0) hx hb dX12_allows_204 (by decide) ?_
                      exact maI hQ hx hb hr hlk hP hS ⟨hT, FA, FF, (by (try dsimp only); (try simp only [ti_0]); (first | omega | (intro h9; omega) | (simp; done) | (refine ⟨?_, ?_⟩ <;> intros <;> first | trivial | omega) | (refine ⟨?_, ?_, ?_⟩ <;> intros <;> first | trivial | omega)))⟩ dX12_allows_205
                    · skip
                      refine lv_iload hx hb dX12_allows_185 (lv_at hl 6 rfl) ?_
                      refine lv_iconst (v := 4) hx hb dX12_allows_187 (by decide) ?_
                      refine bi_eq (tgt := 204) hx hb rfl ti_4 dX12_allows_188 (by decide) (fun c_73 => ?_) (fun c_73 => ?_)
                      · skip
                        refine lv_iconst (v := 0) hx hb dX12_allows_204 (by decide) ?_
                        exact maI hQ hx hb hr hlk hP hS ⟨hT, FA, FF, (by (try dsimp only); (try simp only [ti_0]); (first | omega | (intro h9; omega) | (simp; done) | (refine ⟨?_, ?_⟩ <;> intros <;> first | trivial | omega) | (refine ⟨?_, ?_, ?_⟩ <;> intros <;> first | trivial | omega)))⟩ dX12_allows_205
                      · skip
                        refine lv_aload_n hx hb dX12_allows_191 rfl (lv_at hl 1 rfl) ?_
                        refine lv_iload_n hx hb dX12_allows_192 rfl (lv_at hl 2 rfl) ?_
                        refine lv_iconst (v := 4) hx hb dX12_allows_193 (by decide) ?_
                        refine zcS (zrV (As := [.int x1, .int 4]) (b := a0) (rest := []) C hs hP hS (c_X12_has l D K hM f_45 A_45 hT a0 ha0 hk0 x1 4 hp0) m_X12_has wm_X12_133 (zrecv hs hP ha0 (zF_11 hk0) rfl) ⟨by decide, by decide⟩ hl.1 (Nat.le_of_ble_eq_true rfl) dX12_allows_194) (fun x_74 p_74 => ?_)
                        refine bz_eq (tgt := 204) hx hb rfl dX12_allows_197 (by decide) (fun c_75 => ?_) (fun c_75 => ?_)
                        · skip
                          refine lv_iconst (v := 0) hx hb dX12_allows_204 (by decide) ?_
                          exact maI hQ hx hb hr hlk hP hS ⟨hT, FA, FF, (by (try dsimp only); (try simp only [ti_0]); (first | omega | (intro h9; omega) | (simp; done) | (refine ⟨?_, ?_⟩ <;> intros <;> first | trivial | omega) | (refine ⟨?_, ?_, ?_⟩ <;> intros <;> first | trivial | omega)))⟩ dX12_allows_205
                        · skip
                          refine lv_iconst (v := 2) hx hb dX12_allows_200 (by decide) ?_
                          refine lv_goto (tgt := 205) hx hb dX12_allows_201 (by decide) ?_
                          exact maI hQ hx hb hr hlk hP hS ⟨hT, FA, FF, (by (try dsimp only); (try simp only [ti_2]); (first | omega | (intro h9; omega) | (simp; done) | (refine ⟨?_, ?_⟩ <;> intros <;> first | trivial | omega) | (refine ⟨?_, ?_, ?_⟩ <;> intros <;> first | trivial | omega)))⟩ dX12_allows_205
                · skip
                  refine lv_aload_n hx hb dX12_allows_161 rfl (lv_at hl 1 rfl) ?_
                  refine lv_iload_n hx hb dX12_allows_162 rfl (lv_at hl 2 rfl) ?_
                  refine lv_iload hx hb dX12_allows_163 (lv_at hl 0 rfl) ?_
                  refine zcS (zrV (As := [.int x1, .int y_64]) (b := a0) (rest := []) C hs hP hS (c_X12_has l D K hM f_45 A_45 hT a0 ha0 hk0 x1 y_64 hp0) m_X12_has wm_X12_133 (zrecv hs hP ha0 (zF_11 hk0) rfl) ⟨by decide, by decide⟩ hl.1 (Nat.le_of_ble_eq_true rfl) dX12_allows_165) (fun x_76 p_76 => ?_)
                  refine bz_eq (tgt := 173) hx hb rfl dX12_allows_168 (by decide) (fun c_77 => ?_) (fun c_77 => ?_)
                  · skip
                    refine lv_iload hx hb dX12_allows_173 (lv_at hl 5 rfl) ?_
                    refine bz_eq (tgt := 204) hx hb rfl dX12_allows_175 (by decide) (fun c_78 => ?_) (fun c_78 => ?_)
                    · skip
                      refine lv_iconst (v := 0) hx hb dX12_allows_204 (by decide) ?_
                      exact maI hQ hx hb hr hlk hP hS ⟨hT, FA, FF, (by (try dsimp only); (try simp only [ti_0]); (first | omega | (intro h9; omega) | (simp; done) | (refine ⟨?_, ?_⟩ <;> intros <;> first | trivial | omega) | (refine ⟨?_, ?_, ?_⟩ <;> intros <;> first | trivial | omega)))⟩ dX12_allows_205
                    · skip
                      refine lv_iload hx hb dX12_allows_178 (lv_at hl 6 rfl) ?_
                      refine lv_iload hx hb dX12_allows_180 (lv_at hl 0 rfl) ?_
                      refine bi_eq (tgt := 204) hx hb rfl rfl dX12_allows_182 (by decide) (fun c_79 => ?_) (fun c_79 => ?_)
                      · skip
                        refine lv_iconst (v := 0) hx hb dX12_allows_204 (by decide) ?_
                        exact maI hQ hx hb hr hlk hP hS ⟨hT, FA, FF, (by (try dsimp only); (try simp only [ti_0]); (first | omega | (intro h9; omega) | (simp; done) | (refine ⟨?_, ?_⟩ <;> intros <;> first | trivial | omega) | (refine ⟨?_, ?_, ?_⟩ <;> intros <;> first | trivial | omega)))⟩ dX12_allows_205
                      · skip
                        refine lv_iload hx hb dX12_allows_185 (lv_at hl 6 rfl) ?_
                        refine lv_iconst (v := 4) hx hb dX12_allows_187 (by decide) ?_
                        refine bi_eq (tgt := 204) hx hb rfl ti_4 dX12_allows_188 (by decide) (fun c_80 => ?_) (fun c_80 => ?_)
                        · skip
                          refine lv_iconst (v := 0) hx hb dX12_allows_204 (by decide) ?_
                          exact maI hQ hx hb hr hlk hP hS ⟨hT, FA, FF, (by (try dsimp only); (try simp only [ti_0]); (first | omega | (intro h9; omega) | (simp; done) | (refine ⟨?_, ?_⟩ <;> intros <;> first | trivial | omega) | (refine ⟨?_, ?_, ?_⟩ <;> intros <;> first | trivial | omega)))⟩ dX12_allows_205
                        · skip
                          refine lv_aload_n hx hb dX12_allows_191 rfl (lv_at hl 1 rfl) ?_
                          refine lv_iload_n hx hb dX12_allows_192 rfl (lv_at hl 2 rfl) ?_
                          refine lv_iconst (v := 4) hx hb dX12_allows_193 (by decide) ?_
                          refine zcS (zrV (As := [.int x1, .int 4]) (b := a0) (rest := []) C hs hP hS (c_X12_has l D K hM f_45 A_45 hT a0 ha0 hk0 x1 4 hp0) m_X12_has wm_X12_133 (zrecv hs hP ha0 (zF_11 hk0) rfl) ⟨by decide, by decide⟩ hl.1 (Nat.le_of_ble_eq_true rfl) dX12_allows_194) (fun x_81 p_81 => ?_)
                          refine bz_eq (tgt := 204) hx hb rfl dX12_allows_197 (by decide) (fun c_82 => ?_) (fun c_82 => ?_)
                          · skip
                            refine lv_iconst (v := 0) hx hb dX12_allows_204 (by decide) ?_
                            exact maI hQ hx hb hr hlk hP hS ⟨hT, FA, FF, (by (try dsimp only); (try simp only [ti_0]); (first | omega | (intro h9; omega) | (simp; done) | (refine ⟨?_, ?_⟩ <;> intros <;> first | trivial | omega) | (refine ⟨?_, ?_, ?_⟩ <;> intros <;> first | trivial | omega)))⟩ dX12_allows_205
                          · skip
                            refine lv_iconst (v := 2) hx hb dX12_allows_200 (by decide) ?_
                            refine lv_goto (tgt := 205) hx hb dX12_allows_201 (by decide) ?_
                            exact maI hQ hx hb hr hlk hP hS ⟨hT, FA, FF, (by (try dsimp only); (try simp only [ti_2]); (first | omega | (intro h9; omega) | (simp; done) | (refine ⟨?_, ?_⟩ <;> intros <;> first | trivial | omega) | (refine ⟨?_, ?_, ?_⟩ <;> intros <;> first | trivial | omega)))⟩ dX12_allows_205
                  · skip
                    refine lv_iconst (v := 1) hx hb dX12_allows_171 (by decide) ?_
                    exact maI hQ hx hb hr hlk hP hS ⟨hT, FA, FF, (by (try dsimp only); (try simp only [ti_1]); (first | omega | (intro h9; omega) | (simp; done) | (refine ⟨?_, ?_⟩ <;> intros <;> first | trivial | omega) | (refine ⟨?_, ?_, ?_⟩ <;> intros <;> first | trivial | omega)))⟩ dX12_allows_172
              · skip
                refine lv_iload_n hx hb dX12_allows_128 rfl (lv_at hl 4 rfl) ?_
                refine lv_iconst (v := 2) hx hb dX12_allows_129 (by decide) ?_
                refine bi_ne (tgt := 152) hx hb rfl ti_2 dX12_allows_130 (by decide) (fun c_83 => ?_) (fun c_83 => ?_)
                · skip
                  refine lv_iconst (v := 0) hx hb dX12_allows_152 (by decide) ?_
                  exact maI hQ hx hb hr hlk hP hS ⟨hT, FA, FF, (by (try dsimp only); (try simp only [ti_0]); (first | omega | (intro h9; omega) | (simp; done) | (refine ⟨?_, ?_⟩ <;> intros <;> first | trivial | omega) | (refine ⟨?_, ?_, ?_⟩ <;> intros <;> first | trivial | omega)))⟩ dX12_allows_153
                · skip
                  refine lv_iload hx hb dX12_allows_133 (lv_at hl 6 rfl) ?_
                  refine lv_iconst (v := 3) hx hb dX12_allows_135 (by decide) ?_
                  refine bi_ne (tgt := 152) hx hb rfl ti_3 dX12_allows_136 (by decide) (fun c_84 => ?_) (fun c_84 => ?_)
                  · skip
                    refine lv_iconst (v := 0) hx hb dX12_allows_152 (by decide) ?_
                    exact maI hQ hx hb hr hlk hP hS ⟨hT, FA, FF, (by (try dsimp only); (try simp only [ti_0]); (first | omega | (intro h9; omega) | (simp; done) | (refine ⟨?_, ?_⟩ <;> intros <;> first | trivial | omega) | (refine ⟨?_, ?_, ?_⟩ <;> intros <;> first | trivial | omega)))⟩ dX12_allows_153
                  · skip
                    refine lv_aload_n hx hb dX12_allows_139 rfl (lv_at hl 1 rfl) ?_
                    refine lv_iload_n hx hb dX12_allows_140 rfl (lv_at hl 2 rfl) ?_
                    refine lv_iconst (v := 3) hx hb dX12_allows_141 (by decide) ?_
                    refine zcS (zrV (As := [.int x1, .int 3]) (b := a0) (rest := []) C hs hP hS (c_X12_hasOther l D K hM f_45 A_45 hT a0 ha0 hk0 x1 3 hp0) m_X12_hasOther wm_X12_130 (zrecv hs hP ha0 (zF_11 hk0) rfl) ⟨by decide, by decide⟩ hl.1 (Nat.le_of_ble_eq_true rfl) dX12_allows_142) (fun x_85 p_85 => ?_)
                    refine bz_eq (tgt := 152) hx hb rfl dX12_allows_145 (by decide) (fun c_86 => ?_) (fun c_86 => ?_)
                    · skip
                      refine lv_iconst (v := 0) hx hb dX12_allows_152 (by decide) ?_
                      exact maI hQ hx hb hr hlk hP hS ⟨hT, FA, FF, (by (try dsimp only); (try simp only [ti_0]); (first | omega | (intro h9; omega) | (simp; done) | (refine ⟨?_, ?_⟩ <;> intros <;> first | trivial | omega) | (refine ⟨?_, ?_, ?_⟩ <;> intros <;> first | trivial | omega)))⟩ dX12_allows_153
                    · skip
                      refine lv_iconst (v := 3) hx hb dX12_allows_148 (by decide) ?_
                      refine lv_goto (tgt := 153) hx hb dX12_allows_149 (by decide) ?_
                      exact maI hQ hx hb hr hlk hP hS ⟨hT, FA, FF, (by (try dsimp only); (try simp only [ti_3]); (first | omega | (intro h9; omega) | (simp; done) | (refine ⟨?_, ?_⟩ <;> intros <;> first | trivial | omega) | (refine ⟨?_, ?_, ?_⟩ <;> intros <;> first | trivial | omega)))⟩ dX12_allows_153
            · skip
              refine lv_iconst (v := 0) hx hb dX12_allows_120 (by decide) ?_
              exact maI hQ hx hb hr hlk hP hS ⟨hT, FA, FF, (by (try dsimp only); (try simp only [ti_0]); (first | omega | (intro h9; omega) | (simp; done) | (refine ⟨?_, ?_⟩ <;> intros <;> first | trivial | omega) | (refine ⟨?_, ?_, ?_⟩ <;> intros <;> first | trivial | omega)))⟩ dX12_allows_121
        refine bz_ne (tgt := 95) hx hb rfl dX12_allows_88 (by decide) (fun c_54 => ?_) (fun c_54 => ?_)
        · skip
          refine lv_aload_n hx hb dX12_allows_95 rfl (lv_at hl 1 rfl) ?_
          refine lv_iload_n hx hb dX12_allows_96 rfl (lv_at hl 2 rfl) ?_
          refine lv_aload_n hx hb dX12_allows_97 rfl (lv_at hl 1 rfl) ?_
          refine mg_15 C hs hP ha0 hk0 wf_X12_39 dX12_allows_98 ?_
          have hf_87 := hO.r (j := 15) ha0 hk0 (rfl : zX 11 15 = some (55, 4))
          refine lv_iconst (v := 0) hx hb dX12_allows_101 (by decide) ?_
          have hin_88 : vp_in 0 (zn K (zr K a0 15)) := vp_in_iff.mpr (by rw [ti_0, (hf_87.2.2 (by decide))]; decide)
          refine mld_55 C hs hP hf_87.1 hf_87.2.1 hin_88 dX12_allows_102 ?_
          have ep_89 : (0 : Int32).toNatClampNeg = 0 := by decide +kernel
          rw [ep_89]
          have ev_90 : A_45 55 0 = A 55 0 := by rw [hA_45 55 (by decide), FA_42 55 (by decide)]
          have tv_91 := ra_55 (i := 0) hT (by rw [ti_0]; decide) (by rw [ti_0]; decide)
          rw [ep_89] at tv_91
          rw [ev_90] at tv_91
          rw [ev_90]
          have g_92 := z_rng (A 55 0)
          have hq_93 : 0 ≤ (A 55 0).toInt ∧ (A 55 0).toInt ≤ 59 := by (first | assumption | omega | (intros; omega))
          refine zcS (zrV (As := [.int x1, .int (A 55 0)]) (b := a0) (rest := []) C hs hP hS (c_X12_colour l D K hM f_45 A_45 hT a0 ha0 hk0 x1 (A 55 0) hp0 hq_93) m_X12_colour wm_X12_120 (zrecv hs hP ha0 (zF_11 hk0) rfl) ⟨by decide, by decide⟩ hl.1 (Nat.le_of_ble_eq_true rfl) dX12_allows_103) (fun x_94 p_94 => ?_)
          have pp_94 : x_94 = mcol (A_45 40) x1 (A 55 0) := p_94
          have ev_95 : A_45 40 = A 40 := by rw [hA_45 40 (by decide), FA_42 40 (by decide)]
          rw [ev_95] at pp_94
          have pq_94 := congrArg Int32.toInt pp_94
          exact J_106_65 x_94 _ (lv_sub hl [1, 2, 3, 4, 5, 0] rfl)
        · skip
          refine lv_iconst (v := (-1)) hx hb dX12_allows_91 (by decide) ?_
          refine lv_goto (tgt := 106) hx hb dX12_allows_92 (by decide) ?_
          exact J_106_65 (-1) _ (lv_sub hl [1, 2, 3, 4, 5, 0] rfl)
      refine bz_ne (tgt := 54) hx hb rfl dX12_allows_46 (by decide) (fun c_23 => ?_) (fun c_23 => ?_)
      · skip
        refine lv_aload_n hx hb dX12_allows_54 rfl (lv_at hl 0 rfl) ?_
        refine lv_iload hx hb dX12_allows_55 (lv_at hl 4 rfl) ?_
        have J_67_98 : ∀ (y_97 : Int32) (ls : Array Slot), lv_has ls 7 [(0, .ref a0), (1, .int x1), (2, .int x2), (3, .int (A 40 (x1.toInt + 3).toNat)), (4, .int y_9)] → W p l e (rmd 2) s m args below meth c H locs 0 0 Q (F0 m 67 ls [.int y_97, .ref a0]) := by
          intro y_97 ls hl
          have g_100 := z_rng y_97
          have hq_101 : (f_21 11).toInt ≤ 2000000000 := by (first | assumption | omega | (intros; omega))
          refine mcV (zrV (As := [.int y_97]) (b := a0) (rest := []) C hs hP hS (c_X12_body l D K hM f_21 A_21 hT a0 ha0 hk0 y_97 hq_101) m_X12_body wm_X12_124 (zrecv hs hP ha0 (zF_11 hk0) rfl) ⟨by decide, by decide⟩ hl.1 (Nat.le_of_ble_eq_true rfl) dX12_allows_67) hS (fun f_102 A_102 H locs p_102 hP hS => ?_)
          obtain ⟨hT, hA_102, hF_102, pp_102⟩ := p_102
          have pp_102 : (f_21 11).toInt ≤ (f_102 11).toInt ∧ (f_102 11).toInt ≤ (f_21 11).toInt + 1 ∧ ((f_21 12).toInt ≠ 0 → (f_102 11).toInt = (f_21 11).toInt) := pp_102
          have ev_103 : f_21 12 = f 12 := by rw [FF_21 12 (by decide)]
          rw [ev_103] at pp_102
          have FA := frA FA hA_102 (by decide)
          have FF := frF FF hF_102 (by decide)
          exact J_70_41 f_102 A_102 _ _ _ (by omega) FA FF hT hP hS (lv_sub hl [0, 1, 2, 3, 4] rfl)
        refine bz_eq (tgt := 65) hx hb rfl dX12_allows_57 (by decide) (fun c_96 => ?_) (fun c_96 => ?_)
        · skip
          refine lv_bipush (v := 23) hx hb dX12_allows_65 (by decide) ?_
          exact J_67_98 23 _ (lv_sub hl [0, 1, 2, 3, 4] rfl)
        · skip
          refine lv_bipush (v := 22) hx hb dX12_allows_60 (by decide) ?_
          refine lv_goto (tgt := 67) hx hb dX12_allows_62 (by decide) ?_
          exact J_67_98 22 _ (lv_sub hl [0, 1, 2, 3, 4] rfl)
      · skip
        refine lv_iload_n hx hb dX12_allows_49 rfl (lv_at hl 3 rfl) ?_
        refine lv_iconst (v := 2) hx hb dX12_allows_50 (by decide) ?_
        refine bi_ne (tgt := 70) hx hb rfl ti_2 dX12_allows_51 (by decide) (fun c_104 => ?_) (fun c_104 => ?_)
        · skip
          exact J_70_41 f_21 A_21 _ _ _ (by omega) FA FF hT hP hS (lv_sub hl [0, 1, 2, 3, 4] rfl)
        · skip
          refine lv_aload_n hx hb dX12_allows_54 rfl (lv_at hl 0 rfl) ?_
          refine lv_iload hx hb dX12_allows_55 (lv_at hl 4 rfl) ?_
          have J_67_107 : ∀ (y_106 : Int32) (ls : Array Slot), lv_has ls 7 [(0, .ref a0), (1, .int x1), (2, .int x2), (3, .int (A 40 (x1.toInt + 3).toNat)), (4, .int y_9)] → W p l e (rmd 2) s m args below meth c H locs 0 0 Q (F0 m 67 ls [.int y_106, .ref a0]) := by
            intro y_106 ls hl
            have g_109 := z_rng y_106
            have hq_110 : (f_21 11).toInt ≤ 2000000000 := by (first | assumption | omega | (intros; omega))
            refine mcV (zrV (As := [.int y_106]) (b := a0) (rest := []) C hs hP hS (c_X12_body l D K hM f_21 A_21 hT a0 ha0 hk0 y_106 hq_110) m_X12_body wm_X12_124 (zrecv hs hP ha0 (zF_11 hk0) rfl) ⟨by decide, by decide⟩ hl.1 (Nat.le_of_ble_eq_true rfl) dX12_allows_67) hS (fun f_111 A_111 H locs p_111 hP hS => ?_)
            obtain ⟨hT, hA_111, hF_111, pp_111⟩ := p_111
            have pp_111 : (f_21 11).toInt ≤ (f_111 11).toInt ∧ (f_111 11).toInt ≤ (f_21 11).toInt + 1 ∧ ((f_21 12).toInt ≠ 0 → (f_111 11).toInt = (f_21 11).toInt) := pp_111
            have ev_112 : f_21 12 = f 12 := by rw [FF_21 12 (by decide)]
            rw [ev_112] at pp_111
            have FA := frA FA hA_111 (by decide)
            have FF := frF FF hF_111 (by decide)
            exact J_70_41 f_111 A_111 _ _ _ (by omega) FA FF hT hP hS (lv_sub hl [0, 1, 2, 3, 4] rfl)
          refine bz_eq (tgt := 65) hx hb rfl dX12_allows_57 (by decide) (fun c_105 => ?_) (fun c_105 => ?_)
          · skip
            refine lv_bipush (v := 23) hx hb dX12_allows_65 (by decide) ?_
            exact J_67_107 23 _ (lv_sub hl [0, 1, 2, 3, 4] rfl)
          · skip
            refine lv_bipush (v := 22) hx hb dX12_allows_60 (by decide) ?_
            refine lv_goto (tgt := 67) hx hb dX12_allows_62 (by decide) ?_
            exact J_67_107 22 _ (lv_sub hl [0, 1, 2, 3, 4] rfl)
    refine bi_ne (tgt := 44) hx hb rfl ti_4 dX12_allows_35 (by decide) (fun c_17 => ?_) (fun c_17 => ?_)
    · skip
      exact J_44_20 f A _ _ _ (by omega) FA FF hT hP hS (lv_sub hl [1, 2, 3, 4, 0] rfl)
    · skip
      refine lv_aload_n hx hb dX12_allows_38 rfl (lv_at hl 1 rfl) ?_
      refine lv_bipush (v := 24) hx hb dX12_allows_39 (by decide) ?_
      have hq_113 : (f 11).toInt ≤ 2000000000 := by ((try simp only [ti_24]); first | assumption | omega | (intros; omega))
      refine mcV (zrV (As := [.int 24]) (b := a0) (rest := []) C hs hP hS (c_X12_body l D K hM f A hT a0 ha0 hk0 24 hq_113) m_X12_body wm_X12_124 (zrecv hs hP ha0 (zF_11 hk0) rfl) ⟨by decide, by decide⟩ hl.1 (Nat.le_of_ble_eq_true rfl) dX12_allows_41) hS (fun f_114 A_114 H locs p_114 hP hS => ?_)
      obtain ⟨hT, hA_114, hF_114, pp_114⟩ := p_114
      have pp_114 : (f 11).toInt ≤ (f_114 11).toInt ∧ (f_114 11).toInt ≤ (f 11).toInt + 1 ∧ ((f 12).toInt ≠ 0 → (f_114 11).toInt = (f 11).toInt) := pp_114
      try simp only [ti_24] at pp_114
      have FA := frA FA hA_114 (by decide)
      have FF := frF FF hF_114 (by decide)
      exact J_44_20 f_114 A_114 _ _ _ (by omega) FA FF hT hP hS (lv_sub hl [1, 2, 3, 4, 0] rfl)
  refine bi_eq (tgt := 19) hx hb rfl ti_1 dX12_allows_11 (by decide) (fun c_7 => ?_) (fun c_7 => ?_)
  · skip
    refine lv_iconst (v := 1) hx hb dX12_allows_19 (by decide) ?_
    refine lv_goto (tgt := 24) hx hb dX12_allows_20 (by decide) ?_
    exact J_24_10 1 _ (Or.inr rfl) (lv_sub hl [1, 2, 3, 0] rfl)
  · skip
    refine lv_iload_n hx hb dX12_allows_14 rfl (lv_at hl 0 rfl) ?_
    refine lv_iconst (v := 3) hx hb dX12_allows_15 (by decide) ?_
    refine bi_ne (tgt := 23) hx hb rfl ti_3 dX12_allows_16 (by decide) (fun c_115 => ?_) (fun c_115 => ?_)
    · skip
      refine lv_iconst (v := 0) hx hb dX12_allows_23 (by decide) ?_
      exact J_24_10 0 _ (Or.inl rfl) (lv_sub hl [1, 2, 3, 0] rfl)
    · skip
      refine lv_iconst (v := 1) hx hb dX12_allows_19 (by decide) ?_
      refine lv_goto (tgt := 24) hx hb dX12_allows_20 (by decide) ?_
      exact J_24_10 1 _ (Or.inr rfl) (lv_sub hl [1, 2, 3, 0] rfl)
set_option maxHeartbeats 4000000 in
set_option maxRecDepth 100000 in
theorem c_X12_scorePlainly (l : Launch) (D : va_G) (K : zK) (hM : mK K) (f : Nat → Int32) (A : Nat → Nat → Int32) (hT : mT f A) (a0 : Nat) (ha0 : a0 ∈ zl K) (hk0 : zk K a0 = 11) (x1 : Int32) (x2 : Int32) (hp0 : zRow x1.toInt) (hp1 : (f 11).toInt ≤ 1990000000) : Met l yX12_scorePlainly (zc yX12_scorePlainly cX12_scorePlainly 5 (some .int)) (rmd 1) (va_Pc [.ref a0, .int x1, .int x2] (zB D K (mV K f A))) (mQi D K (fun r f' A' => mT f' A' ∧ (∀ k, k ∉ ([50] : List Nat) → A' k = A k) ∧ (∀ k, k ∉ ([11] : List Nat) → f' k = f k) ∧ (f 11).toInt ≤ (f' 11).toInt ∧ (f' 11).toInt ≤ (f 11).toInt + 2 ∧ ((f 12).toInt ≠ 0 → (f' 11).toInt = (f 11).toInt))) 0 0 (zA K) := by
  refine zin (by decide) (Nat.le_of_ble_eq_true rfl) ?_
  intro p e s m args below meth c ls Q hQ C hr hlk hP hs hl
  have C : CallFix p m c cX12_scorePlainly 5 s args zw RX12 := C
  obtain ⟨hx, hb, hml, hown, hts⟩ := id C
  have hO := hM.1
  have hS : va_S (zA K) s.heap s.heap [] := va_S.rf
  have FA : ∀ k, k ∉ ([50] : List Nat) → A k = A k := fun _ _ => rfl
  have FF : ∀ k, k ∉ ([11] : List Nat) → f k = f k := fun _ _ => rfl
  have hl : lv_has ls 5 [(0, .ref a0), (1, .int x1), (2, .int x2)] := hl
  have hb0 := hp0.lin
  refine lv_iload_n hx hb dX12_scorePlainly_0 rfl (lv_at hl 2 rfl) ?_
  have J_10_4 : ∀ (f_5 : Nat → Int32) (A_5 : Nat → Nat → Int32) (H : Heap) (locs : List Loc) (ls : Array Slot), ((f 11).toInt ≤ (f_5 11).toInt ∧ (f_5 11).toInt ≤ (f 11).toInt + 1 ∧ ((f 12).toInt ≠ 0 → (f_5 11).toInt = (f 11).toInt)) → (∀ k, k ∉ ([50] : List Nat) → A_5 k = A k) → (∀ k, k ∉ ([11] : List Nat) → f_5 k = f k) → mT f_5 A_5 → va_P D vwCl (zW K (mV K f_5 A_5)) H → va_S (zA K) s.heap H locs → lv_has ls 5 [(0, .ref a0), (1, .int x1), (2, .int x2)] → W p l e (rmd 1) s m args below meth c H locs 0 0 Q (F0 m 10 ls []) := by
    intro f_5 A_5 H locs ls iv_5_0 FA_5 FF_5 hT hP hS hl
    have FA := FA_5
    have FF := FF_5
    refine lv_aload_n hx hb dX12_scorePlainly_10 rfl (lv_at hl 0 rfl) ?_
    refine lv_bipush (v := 41) hx hb dX12_scorePlainly_11 (by decide) ?_
    have hq_7 : (f_5 11).toInt ≤ 2000000000 := by ((try simp only [ti_41]); first | assumption | omega | (intros; omega))
    refine mcV (zrV (As := [.int 41]) (b := a0) (rest := []) C hs hP hS (c_X12_body l D K hM f_5 A_5 hT a0 ha0 hk0 41 hq_7) m_X12_body wm_X12_124 (zrecv hs hP ha0 (zF_11 hk0) rfl) ⟨by decide, by decide⟩ hl.1 (Nat.le_of_ble_eq_true rfl) dX12_scorePlainly_13) hS (fun f_8 A_8 H locs p_8 hP hS => ?_)
    obtain ⟨hT, hA_8, hF_8, pp_8⟩ := p_8
    have pp_8 : (f_5 11).toInt ≤ (f_8 11).toInt ∧ (f_8 11).toInt ≤ (f_5 11).toInt + 1 ∧ ((f_5 12).toInt ≠ 0 → (f_8 11).toInt = (f_5 11).toInt) := pp_8
    have ev_9 : f_5 12 = f 12 := by rw [FF_5 12 (by decide)]
    rw [ev_9] at pp_8
    try simp only [ti_41] at pp_8
    have FA := frA FA hA_8 (by decide)
    have FF := frF FF hF_8 (by decide)
    refine lv_iconst (v := 1) hx hb dX12_scorePlainly_16 (by decide) ?_
    refine lv_istore_n (lv' := [(3, .int 1), (0, .ref a0), (1, .int x1), (2, .int x2)]) hx hb dX12_scorePlainly_17 rfl hl (by decide) rfl (fun ls hl => ?_)
    refine lv_iconst (v := 0) hx hb dX12_scorePlainly_18 (by decide) ?_
    refine lv_istore (lv' := [(4, .int 0), (3, .int 1), (0, .ref a0), (1, .int x1), (2, .int x2)]) hx hb dX12_scorePlainly_19 hl (by decide) rfl (fun ls hl => ?_)
    have L_21_12 : ∀ (n_12 : Nat) (y_10 : Int32) (y_11 : Int32) (ls : Array Slot), (2147483648 - y_10.toInt).toNat < n_12 → 0 ≤ y_10.toInt → lv_has ls 5 [(4, .int y_10), (3, .int y_11), (0, .ref a0), (1, .int x1), (2, .int x2)] → W p l e (rmd 1) s m args below meth c H locs 0 0 Q (F0 m 21 ls []) := by
      intro n_12
      induction n_12 with
      | zero => intro y_10 y_11 ls hm_12; exact absurd hm_12 (Nat.not_lt_zero _)
      | succ n_12 ih_12 =>
        intro y_10 y_11 ls hm_12 iv_13_0 hl
        refine lv_iload hx hb dX12_scorePlainly_21 (lv_at hl 0 rfl) ?_
        refine lv_aload_n hx hb dX12_scorePlainly_23 rfl (lv_at hl 2 rfl) ?_
        refine mg_16 C hs hP ha0 hk0 wf_X12_127 dX12_scorePlainly_24 ?_
        have ev_14 : f_8 16 = f 16 := by rw [hF_8 16 (by decide), FF_5 16 (by decide)]
        rw [ev_14]
        have tf_15 : 0 ≤ (f 16).toInt ∧ (f 16).toInt ≤ 4 := by rw [← ev_14]; exact hT.1 16
        refine bi_ge (tgt := 64) hx hb rfl rfl dX12_scorePlainly_27 (by decide) (fun c_16 => ?_) (fun c_16 => ?_)
        · skip
          refine lv_iload_n hx hb dX12_scorePlainly_64 rfl (lv_at hl 1 rfl) ?_
          exact maI hQ hx hb hr hlk hP hS ⟨hT, FA, FF, (by (try dsimp only); (first | omega | (intro h9; omega) | (simp; done) | (refine ⟨?_, ?_⟩ <;> intros <;> first | trivial | omega) | (refine ⟨?_, ?_, ?_⟩ <;> intros <;> first | trivial | omega)))⟩ dX12_scorePlainly_65
        · skip
          refine lv_iload_n hx hb dX12_scorePlainly_30 rfl (lv_at hl 4 rfl) ?_
          refine bz_eq (tgt := 64) hx hb rfl dX12_scorePlainly_31 (by decide) (fun c_17 => ?_) (fun c_17 => ?_)
          · skip
            refine lv_iload_n hx hb dX12_scorePlainly_64 rfl (lv_at hl 1 rfl) ?_
            exact maI hQ hx hb hr hlk hP hS ⟨hT, FA, FF, (by (try dsimp only); (first | omega | (intro h9; omega) | (simp; done) | (refine ⟨?_, ?_⟩ <;> intros <;> first | trivial | omega) | (refine ⟨?_, ?_, ?_⟩ <;> intros <;> first | trivial | omega)))⟩ dX12_scorePlainly_65
          · skip
            refine lv_iload_n hx hb dX12_scorePlainly_34 rfl (lv_at hl 1 rfl) ?_
            refine lv_aload_n hx hb dX12_scorePlainly_35 rfl (lv_at hl 2 rfl) ?_
            refine lv_iload_n hx hb dX12_scorePlainly_36 rfl (lv_at hl 3 rfl) ?_
            refine lv_aload_n hx hb dX12_scorePlainly_37 rfl (lv_at hl 2 rfl) ?_
            refine mg_15 C hs hP ha0 hk0 wf_X12_39 dX12_scorePlainly_38 ?_
            have hf_18 := hO.r (j := 15) ha0 hk0 (rfl : zX 11 15 = some (55, 4))
            refine lv_iload hx hb dX12_scorePlainly_41 (lv_at hl 0 rfl) ?_
            have g_20 := z_rng y_10
            have hin_19 : vp_in y_10 (zn K (zr K a0 15)) := vp_in_iff.mpr (by rw [(hf_18.2.2 (by decide))]; refine ⟨?_, ?_⟩ <;> omega)
            refine mld_55 C hs hP hf_18.1 hf_18.2.1 hin_19 dX12_scorePlainly_43 ?_
            have ev_21 : A_8 55 y_10.toNatClampNeg = A 55 y_10.toNatClampNeg := by rw [hA_8 55 (by decide), FA_5 55 (by decide)]
            have tv_22 := ra_55 hT (vp_in_iff.mp hin_19).1 (by have h7 := (vp_in_iff.mp hin_19).2; rw [(hf_18.2.2 (by decide))] at h7; exact h7)
            rw [ev_21] at tv_22
            rw [ev_21]
            have g_23 := z_rng x1
            have g_24 := z_rng (A 55 y_10.toNatClampNeg)
            have hq_25 : 0 ≤ (A 55 y_10.toNatClampNeg).toInt ∧ (A 55 y_10.toNatClampNeg).toInt ≤ 59 := by (first | assumption | omega | (intros; omega))
            refine zcS (zrV (As := [.int x1, .int (A 55 y_10.toNatClampNeg)]) (b := a0) (rest := [.int y_11]) C hs hP hS (c_X12_colour l D K hM f_8 A_8 hT a0 ha0 hk0 x1 (A 55 y_10.toNatClampNeg) hp0 hq_25) m_X12_colour wm_X12_120 (zrecv hs hP ha0 (zF_11 hk0) rfl) ⟨by decide, by decide⟩ hl.1 (Nat.le_of_ble_eq_true rfl) dX12_scorePlainly_44) (fun x_26 p_26 => ?_)
            have pp_26 : x_26 = mcol (A_8 40) x1 (A 55 y_10.toNatClampNeg) := p_26
            have ev_27 : A_8 40 = A 40 := by rw [hA_8 40 (by decide), FA_5 40 (by decide)]
            rw [ev_27] at pp_26
            have pq_26 := congrArg Int32.toInt pp_26
            refine lv_iconst (v := 4) hx hb dX12_scorePlainly_47 (by decide) ?_
            have J_56_30 : ∀ (y_29 : Int32) (ls : Array Slot), (y_29 = 0 ∨ y_29 = 1) → lv_has ls 5 [(0, .ref a0), (1, .int x1), (2, .int x2), (3, .int y_11), (4, .int y_10)] → W p l e (rmd 1) s m args below meth c H locs 0 0 Q (F0 m 56 ls [.int y_29, .int y_11]) := by
              intro y_29 ls hb_y_29 hl
              refine lv_iadd hx hb dX12_scorePlainly_56 ?_
              refine lv_topi (fun x_32 ex_32 => ?_)
              refine lv_istore_n (lv' := [(3, .int x_32), (0, .ref a0), (1, .int x1), (2, .int x2), (4, .int y_10)]) hx hb dX12_scorePlainly_57 rfl hl (by decide) rfl (fun ls hl => ?_)
              obtain ⟨x_33, ex_33⟩ : ∃ y : Int32, y = y_10 + 1 := ⟨_, rfl⟩
              refine lv_iinc (v := x_33) (lv' := [(4, .int x_33), (3, .int x_32), (0, .ref a0), (1, .int x1), (2, .int x2)]) hx hb dX12_scorePlainly_58 hl (k := 4) rfl (by rw [ex_33]; rfl) (by decide) rfl (fun ls hl => ?_)
              refine lv_goto (tgt := 21) hx hb dX12_scorePlainly_61 (by decide) ?_
              obtain ⟨f_33, l_33, u_33⟩ := z_add ex_33 rfl ti_1
              try replace f_33 : x_33.toInt = y_10.toInt + 1 := by omega
              clear l_33 u_33
              have g_34 := z_rng (f 16)
              have g_35 := z_rng x2
              exact ih_12 x_33 x_32 _ (by omega) (by omega) (lv_sub hl [0, 1, 2, 3, 4] rfl)
            refine bi_ne (tgt := 55) hx hb rfl ti_4 dX12_scorePlainly_48 (by decide) (fun c_28 => ?_) (fun c_28 => ?_)
            · skip
              refine lv_iconst (v := 0) hx hb dX12_scorePlainly_55 (by decide) ?_
              exact J_56_30 0 _ (Or.inl rfl) (lv_sub hl [2, 3, 4, 1, 0] rfl)
            · skip
              refine lv_iconst (v := 1) hx hb dX12_scorePlainly_51 (by decide) ?_
              refine lv_goto (tgt := 56) hx hb dX12_scorePlainly_52 (by decide) ?_
              exact J_56_30 1 _ (Or.inr rfl) (lv_sub hl [2, 3, 4, 1, 0] rfl)
    exact L_21_12 _ 0 1 _ (Nat.lt_succ_self _) (by (try simp only [ti_0, ti_1]); omega) (lv_sub hl [0, 1, 2, 3, 4] rfl)
  refine bz_eq (tgt := 10) hx hb rfl dX12_scorePlainly_1 (by decide) (fun c_1 => ?_) (fun c_1 => ?_)
  · skip
    exact J_10_4 f A _ _ _ (by omega) FA FF hT hP hS (lv_sub hl [0, 1, 2] rfl)
  · skip
    refine lv_aload_n hx hb dX12_scorePlainly_4 rfl (lv_at hl 0 rfl) ?_
    refine lv_bipush (v := 42) hx hb dX12_scorePlainly_5 (by decide) ?_
    have hq_36 : (f 11).toInt ≤ 2000000000 := by ((try simp only [ti_42]); first | assumption | omega | (intros; omega))
    refine mcV (zrV (As := [.int 42]) (b := a0) (rest := []) C hs hP hS (c_X12_body l D K hM f A hT a0 ha0 hk0 42 hq_36) m_X12_body wm_X12_124 (zrecv hs hP ha0 (zF_11 hk0) rfl) ⟨by decide, by decide⟩ hl.1 (Nat.le_of_ble_eq_true rfl) dX12_scorePlainly_7) hS (fun f_37 A_37 H locs p_37 hP hS => ?_)
    obtain ⟨hT, hA_37, hF_37, pp_37⟩ := p_37
    have pp_37 : (f 11).toInt ≤ (f_37 11).toInt ∧ (f_37 11).toInt ≤ (f 11).toInt + 1 ∧ ((f 12).toInt ≠ 0 → (f_37 11).toInt = (f 11).toInt) := pp_37
    try simp only [ti_42] at pp_37
    have FA := frA FA hA_37 (by decide)
    have FF := frF FF hF_37 (by decide)
    exact J_10_4 f_37 A_37 _ _ _ (by omega) FA FF hT hP hS (lv_sub hl [0, 1, 2] rfl)
set_option maxHeartbeats 4000000 in
set_option maxRecDepth 100000 in
theorem c_X12_score (l : Launch) (D : va_G) (K : zK) (hM : mK K) (f : Nat → Int32) (A : Nat → Nat → Int32) (hT : mT f A) (a0 : Nat) (ha0 : a0 ∈ zl K) (hk0 : zk K a0 = 11) (x1 : Int32) (x2 : Int32) (hp0 : zRow x1.toInt) (hp1 : 0 ≤ x2.toInt ∧ x2.toInt ≤ 3) (hp2 : (f 11).toInt ≤ 1980000000) : Met l yX12_score (zc yX12_score cX12_score 7 (some .int)) (rmd 2) (va_Pc [.ref a0, .int x1, .int x2] (zB D K (mV K f A))) (mQi D K (fun r f' A' => mT f' A' ∧ (∀ k, k ∉ ([50] : List Nat) → A' k = A k) ∧ (∀ k, k ∉ ([11] : List Nat) → f' k = f k) ∧ (f 11).toInt ≤ (f' 11).toInt ∧ (f' 11).toInt ≤ (f 11).toInt + 4 ∧ ((f 12).toInt ≠ 0 → (f' 11).toInt = (f 11).toInt))) 0 0 (zA K) := by
  refine zin (by decide) (Nat.le_of_ble_eq_true rfl) ?_
  intro p e s m args below meth c ls Q hQ C hr hlk hP hs hl
  have C : CallFix p m c cX12_score 7 s args zw RX12 := C
  obtain ⟨hx, hb, hml, hown, hts⟩ := id C
  have hO := hM.1
  have hS : va_S (zA K) s.heap s.heap [] := va_S.rf
  have FA : ∀ k, k ∉ ([50] : List Nat) → A k = A k := fun _ _ => rfl
  have FF : ∀ k, k ∉ ([11] : List Nat) → f k = f k := fun _ _ => rfl
  have hl : lv_has ls 7 [(0, .ref a0), (1, .int x1), (2, .int x2)] := hl
  have hb0 := hp0.lin
  refine lv_iconst (v := 0) hx hb dX12_score_0 (by decide) ?_
  refine lv_istore_n (lv' := [(3, .int 0), (0, .ref a0), (1, .int x1), (2, .int x2)]) hx hb dX12_score_1 rfl hl (by decide) rfl (fun ls hl => ?_)
  refine lv_aload_n hx hb dX12_score_2 rfl (lv_at hl 1 rfl) ?_
  refine mg_0 C hs hP ha0 hk0 wf_X12_8 dX12_score_3 ?_
  have hf_1 := hO.r (j := 0) ha0 hk0 (rfl : zX 11 0 = some (40, 47730))
  refine lv_iload_n hx hb dX12_score_6 rfl (lv_at hl 2 rfl) ?_
  refine lv_iconst (v := 2) hx hb dX12_score_7 (by decide) ?_
  refine lv_iadd hx hb dX12_score_8 ?_
  refine lv_topi (fun x_2 ex_2 => ?_)
  have hi_hr_3 : zEq x_2.toInt (x1.toInt + 2) := by
    have g_4 := z_rng x1
    obtain ⟨f_2, l_2, u_2⟩ := z_add ex_2 rfl ti_2
    try replace f_2 : x_2.toInt = x1.toInt + 2 := by omega
    clear l_2 u_2
    show x_2.toInt = (x1.toInt + 2)
    omega
  have hl_hr_3 : (2 : Int) ≤ 2 ∧ 2 ≤ (2 : Int) := by decide
  have hid_hr_3 : (x1.toInt + 2) = x1.toInt + (2) := by simp only [Int.add_assoc, Int.add_sub_assoc]
  have hr_3 := z_cell (lo := 2) (hi := 8) hp0 hi_hr_3 hid_hr_3 hl_hr_3 (by decide)
  replace hid_hr_3 : zEq (x1.toInt + 2) (x1.toInt + (2)) := hid_hr_3
  have hin_5 : vp_in x_2 (zn K (zr K a0 0)) := vp_in_iff.mpr (by rw [(hf_1.2.2 (by decide))]; exact hr_3.in)
  refine mld_40 C hs hP hf_1.1 hf_1.2.1 hin_5 dX12_score_9 ?_
  have ep_6 : x_2.toNatClampNeg = (x1.toInt + 2).toNat := z_posE hi_hr_3
  rw [ep_6]
  refine lv_iconst (v := 4) hx hb dX12_score_10 (by decide) ?_
  have J_22_11 : ∀ (f_12 : Nat → Int32) (A_12 : Nat → Nat → Int32) (H : Heap) (locs : List Loc) (y_10 : Int32) (ls : Array Slot), (y_10 = 0 ∨ y_10 = 1) → ((f 11).toInt ≤ (f_12 11).toInt ∧ (f_12 11).toInt ≤ (f 11).toInt + 1 ∧ ((f 12).toInt ≠ 0 → (f_12 11).toInt = (f 11).toInt)) → (∀ k, k ∉ ([50] : List Nat) → A_12 k = A k) → (∀ k, k ∉ ([11] : List Nat) → f_12 k = f k) → mT f_12 A_12 → va_P D vwCl (zW K (mV K f_12 A_12)) H → va_S (zA K) s.heap H locs → lv_has ls 7 [(0, .ref a0), (1, .int x1), (2, .int x2), (3, .int y_10)] → W p l e (rmd 2) s m args below meth c H locs 0 0 Q (F0 m 22 ls []) := by
    intro f_12 A_12 H locs y_10 ls hb_y_10 iv_12_0 FA_12 FF_12 hT hP hS hl
    have FA := FA_12
    have FF := FF_12
    refine lv_aload_n hx hb dX12_score_22 rfl (lv_at hl 0 rfl) ?_
    refine mg_0 C hs hP ha0 hk0 wf_X12_8 dX12_score_23 ?_
    refine lv_iload_n hx hb dX12_score_26 rfl (lv_at hl 1 rfl) ?_
    refine lv_iconst (v := 4) hx hb dX12_score_27 (by decide) ?_
    refine lv_iadd hx hb dX12_score_28 ?_
    refine lv_topi (fun x_14 ex_14 => ?_)
    have hi_hr_15 : zEq x_14.toInt (x1.toInt + 4) := by
      have g_16 := z_rng x1
      obtain ⟨f_14, l_14, u_14⟩ := z_add ex_14 rfl ti_4
      try replace f_14 : x_14.toInt = x1.toInt + 4 := by omega
      clear l_14 u_14
      show x_14.toInt = (x1.toInt + 4)
      omega
    have hl_hr_15 : (4 : Int) ≤ 4 ∧ 4 ≤ (4 : Int) := by decide
    have hid_hr_15 : (x1.toInt + 4) = x1.toInt + (4) := by simp only [Int.add_assoc, Int.add_sub_assoc]
    have hr_15 := z_cell (lo := 2) (hi := 8) hp0 hi_hr_15 hid_hr_15 hl_hr_15 (by decide)
    replace hid_hr_15 : zEq (x1.toInt + 4) (x1.toInt + (4)) := hid_hr_15
    have hin_17 : vp_in x_14 (zn K (zr K a0 0)) := vp_in_iff.mpr (by rw [(hf_1.2.2 (by decide))]; exact hr_15.in)
    refine mld_40 C hs hP hf_1.1 hf_1.2.1 hin_17 dX12_score_29 ?_
    have ep_18 : x_14.toNatClampNeg = (x1.toInt + 4).toNat := z_posE hi_hr_15
    rw [ep_18]
    have ev_19 : A_12 40 (x1.toInt + 4).toNat = A 40 (x1.toInt + 4).toNat := by rw [FA_12 40 (by decide)]
    rw [ev_19]
    refine lv_istore (lv' := [(4, .int (A 40 (x1.toInt + 4).toNat)), (0, .ref a0), (1, .int x1), (2, .int x2), (3, .int y_10)]) hx hb dX12_score_30 hl (by decide) rfl (fun ls hl => ?_)
    refine lv_iload hx hb dX12_score_32 (lv_at hl 0 rfl) ?_
    refine lv_iconst (v := 2) hx hb dX12_score_34 (by decide) ?_
    refine bi_ne (tgt := 93) hx hb rfl ti_2 dX12_score_35 (by decide) (fun c_20 => ?_) (fun c_20 => ?_)
    · skip
      refine lv_iload hx hb dX12_score_93 (lv_at hl 0 rfl) ?_
      refine lv_iconst (v := 3) hx hb dX12_score_95 (by decide) ?_
      refine bi_ne (tgt := 145) hx hb rfl ti_3 dX12_score_96 (by decide) (fun c_21 => ?_) (fun c_21 => ?_)
      · skip
        refine lv_iload_n hx hb dX12_score_145 rfl (lv_at hl 4 rfl) ?_
        refine lv_aload_n hx hb dX12_score_146 rfl (lv_at hl 1 rfl) ?_
        refine lv_iload_n hx hb dX12_score_147 rfl (lv_at hl 2 rfl) ?_
        refine lv_iload hx hb dX12_score_148 (lv_at hl 0 rfl) ?_
        refine lv_iconst (v := 1) hx hb dX12_score_150 (by decide) ?_
        refine bi_ne (tgt := 158) hx hb rfl ti_1 dX12_score_151 (by decide) (fun c_22 => ?_) (fun c_22 => ?_)
        · skip
          refine lv_iconst (v := 0) hx hb dX12_score_158 (by decide) ?_
          have g_23 := z_rng x1
          have hq_24 : (f_12 11).toInt ≤ 1990000000 := by ((try simp only [ti_0]); first | assumption | omega | (intros; omega))
          refine mcI (zrV (As := [.int x1, .int 0]) (b := a0) (rest := [.int y_10]) C hs hP hS (c_X12_scorePlainly l D K hM f_12 A_12 hT a0 ha0 hk0 x1 0 hp0 hq_24) m_X12_scorePlainly wm_X12_143 (zrecv hs hP ha0 (zF_11 hk0) rfl) ⟨by decide, by decide⟩ hl.1 (Nat.le_of_ble_eq_true rfl) dX12_score_159) hS (fun x_25 f_25 A_25 H locs p_25 hP hS => ?_)
          obtain ⟨hT, hA_25, hF_25, pp_25⟩ := p_25
          have pp_25 : (f_12 11).toInt ≤ (f_25 11).toInt ∧ (f_25 11).toInt ≤ (f_12 11).toInt + 2 ∧ ((f_12 12).toInt ≠ 0 → (f_25 11).toInt = (f_12 11).toInt) := pp_25
          have ev_26 : f_12 12 = f 12 := by rw [FF_12 12 (by decide)]
          rw [ev_26] at pp_25
          try simp only [ti_0] at pp_25
          have FA := frA FA hA_25 (by decide)
          have FF := frF FF hF_25 (by decide)
          refine lv_iadd hx hb dX12_score_162 ?_
          refine lv_topi (fun x_27 ex_27 => ?_)
          exact maI hQ hx hb hr hlk hP hS ⟨hT, FA, FF, (by (try dsimp only); (first | omega | (intro h9; omega) | (simp; done) | (refine ⟨?_, ?_⟩ <;> intros <;> first | trivial | omega) | (refine ⟨?_, ?_, ?_⟩ <;> intros <;> first | trivial | omega)))⟩ dX12_score_163
        · skip
          refine lv_iconst (v := 1) hx hb dX12_score_154 (by decide) ?_
          refine lv_goto (tgt := 159) hx hb dX12_score_155 (by decide) ?_
          have g_28 := z_rng x1
          have hq_29 : (f_12 11).toInt ≤ 1990000000 := by ((try simp only [ti_1]); first | assumption | omega | (intros; omega))
          refine mcI (zrV (As := [.int x1, .int 1]) (b := a0) (rest := [.int y_10]) C hs hP hS (c_X12_scorePlainly l D K hM f_12 A_12 hT a0 ha0 hk0 x1 1 hp0 hq_29) m_X12_scorePlainly wm_X12_143 (zrecv hs hP ha0 (zF_11 hk0) rfl) ⟨by decide, by decide⟩ hl.1 (Nat.le_of_ble_eq_true rfl) dX12_score_159) hS (fun x_30 f_30 A_30 H locs p_30 hP hS => ?_)
          obtain ⟨hT, hA_30, hF_30, pp_30⟩ := p_30
          have pp_30 : (f_12 11).toInt ≤ (f_30 11).toInt ∧ (f_30 11).toInt ≤ (f_12 11).toInt + 2 ∧ ((f_12 12).toInt ≠ 0 → (f_30 11).toInt = (f_12 11).toInt) := pp_30
          have ev_31 : f_12 12 = f 12 := by rw [FF_12 12 (by decide)]
          rw [ev_31] at pp_30
          try simp only [ti_1] at pp_30
          have FA := frA FA hA_30 (by decide)
          have FF := frF FF hF_30 (by decide)
          refine lv_iadd hx hb dX12_score_162 ?_
          refine lv_topi (fun x_32 ex_32 => ?_)
          exact maI hQ hx hb hr hlk hP hS ⟨hT, FA, FF, (by (try dsimp only); (first | omega | (intro h9; omega) | (simp; done) | (refine ⟨?_, ?_⟩ <;> intros <;> first | trivial | omega) | (refine ⟨?_, ?_, ?_⟩ <;> intros <;> first | trivial | omega)))⟩ dX12_score_163
      · skip
        refine lv_aload_n hx hb dX12_score_99 rfl (lv_at hl 1 rfl) ?_
        refine lv_bipush (v := 44) hx hb dX12_score_100 (by decide) ?_
        have hq_33 : (f_12 11).toInt ≤ 2000000000 := by ((try simp only [ti_44]); first | assumption | omega | (intros; omega))
        refine mcV (zrV (As := [.int 44]) (b := a0) (rest := []) C hs hP hS (c_X12_body l D K hM f_12 A_12 hT a0 ha0 hk0 44 hq_33) m_X12_body wm_X12_124 (zrecv hs hP ha0 (zF_11 hk0) rfl) ⟨by decide, by decide⟩ hl.1 (Nat.le_of_ble_eq_true rfl) dX12_score_102) hS (fun f_34 A_34 H locs p_34 hP hS => ?_)
        obtain ⟨hT, hA_34, hF_34, pp_34⟩ := p_34
        have pp_34 : (f_12 11).toInt ≤ (f_34 11).toInt ∧ (f_34 11).toInt ≤ (f_12 11).toInt + 1 ∧ ((f_12 12).toInt ≠ 0 → (f_34 11).toInt = (f_12 11).toInt) := pp_34
        have ev_35 : f_12 12 = f 12 := by rw [FF_12 12 (by decide)]
        rw [ev_35] at pp_34
        try simp only [ti_44] at pp_34
        have FA := frA FA hA_34 (by decide)
        have FF := frF FF hF_34 (by decide)
        refine lv_aload_n hx hb dX12_score_105 rfl (lv_at hl 1 rfl) ?_
        refine lv_iload_n hx hb dX12_score_106 rfl (lv_at hl 2 rfl) ?_
        refine lv_iconst (v := 1) hx hb dX12_score_107 (by decide) ?_
        have g_36 := z_rng x1
        have hq_37 : (f_34 11).toInt ≤ 1990000000 := by ((try simp only [ti_1]); first | assumption | omega | (intros; omega))
        refine mcI (zrV (As := [.int x1, .int 1]) (b := a0) (rest := []) C hs hP hS (c_X12_scorePlainly l D K hM f_34 A_34 hT a0 ha0 hk0 x1 1 hp0 hq_37) m_X12_scorePlainly wm_X12_143 (zrecv hs hP ha0 (zF_11 hk0) rfl) ⟨by decide, by decide⟩ hl.1 (Nat.le_of_ble_eq_true rfl) dX12_score_108) hS (fun x_38 f_38 A_38 H locs p_38 hP hS => ?_)
        obtain ⟨hT, hA_38, hF_38, pp_38⟩ := p_38
        have pp_38 : (f_34 11).toInt ≤ (f_38 11).toInt ∧ (f_38 11).toInt ≤ (f_34 11).toInt + 2 ∧ ((f_34 12).toInt ≠ 0 → (f_38 11).toInt = (f_34 11).toInt) := pp_38
        have ev_39 : f_34 12 = f 12 := by rw [hF_34 12 (by decide), FF_12 12 (by decide)]
        rw [ev_39] at pp_38
        try simp only [ti_1] at pp_38
        have FA := frA FA hA_38 (by decide)
        have FF := frF FF hF_38 (by decide)
        refine lv_istore (lv' := [(5, .int x_38), (4, .int (A 40 (x1.toInt + 4).toNat)), (0, .ref a0), (1, .int x1), (2, .int x2), (3, .int y_10)]) hx hb dX12_score_111 hl (by decide) rfl (fun ls hl => ?_)
        refine lv_iload_n hx hb dX12_score_113 rfl (lv_at hl 5 rfl) ?_
        refine lv_aload_n hx hb dX12_score_114 rfl (lv_at hl 2 rfl) ?_
        refine mg_15 C hs hP ha0 hk0 wf_X12_39 dX12_score_115 ?_
        have hf_40 := hO.r (j := 15) ha0 hk0 (rfl : zX 11 15 = some (55, 4))
        refine lv_iload_n hx hb dX12_score_118 rfl (lv_at hl 4 rfl) ?_
        have g_42 := z_rng x2
        have hin_41 : vp_in x2 (zn K (zr K a0 15)) := vp_in_iff.mpr (by rw [(hf_40.2.2 (by decide))]; refine ⟨?_, ?_⟩ <;> omega)
        refine mld_55 C hs hP hf_40.1 hf_40.2.1 hin_41 dX12_score_119 ?_
        have ev_43 : A_38 55 x2.toNatClampNeg = A 55 x2.toNatClampNeg := by rw [hA_38 55 (by decide), hA_34 55 (by decide), FA_12 55 (by decide)]
        have tv_44 := ra_55 hT (vp_in_iff.mp hin_41).1 (by have h7 := (vp_in_iff.mp hin_41).2; rw [(hf_40.2.2 (by decide))] at h7; exact h7)
        rw [ev_43] at tv_44
        rw [ev_43]
        refine lv_iconst (v := 4) hx hb dX12_score_120 (by decide) ?_
        refine lv_irem hx hb dX12_score_121 (by decide) ?_
        refine lv_topi (fun x_45 ex_45 => ?_)
        refine lv_aload_n hx hb dX12_score_122 rfl (lv_at hl 2 rfl) ?_
        refine mg_0 C hs hP ha0 hk0 wf_X12_8 dX12_score_123 ?_
        refine lv_iload_n hx hb dX12_score_126 rfl (lv_at hl 3 rfl) ?_
        refine lv_bipush (v := 11) hx hb dX12_score_127 (by decide) ?_
        refine lv_iadd hx hb dX12_score_129 ?_
        refine lv_topi (fun x_46 ex_46 => ?_)
        have hi_hr_47 : zEq x_46.toInt (x1.toInt + 11) := by
          obtain ⟨f_46, l_46, u_46⟩ := z_add ex_46 rfl ti_11
          try replace f_46 : x_46.toInt = x1.toInt + 11 := by omega
          clear l_46 u_46
          show x_46.toInt = (x1.toInt + 11)
          omega
        have hl_hr_47 : (11 : Int) ≤ 11 ∧ 11 ≤ (11 : Int) := by decide
        have hid_hr_47 : (x1.toInt + 11) = x1.toInt + (11) := by simp only [Int.add_assoc, Int.add_sub_assoc]
        have hr_47 := z_cell (lo := 10) (hi := 19) hp0 hi_hr_47 hid_hr_47 hl_hr_47 (by decide)
        replace hid_hr_47 : zEq (x1.toInt + 11) (x1.toInt + (11)) := hid_hr_47
        have hin_48 : vp_in x_46 (zn K (zr K a0 0)) := vp_in_iff.mpr (by rw [(hf_1.2.2 (by decide))]; exact hr_47.in)
        refine mld_40 C hs hP hf_1.1 hf_1.2.1 hin_48 dX12_score_130 ?_
        have ep_49 : x_46.toNatClampNeg = (x1.toInt + 11).toNat := z_posE hi_hr_47
        rw [ep_49]
        have ev_50 : A_38 40 (x1.toInt + 11).toNat = A 40 (x1.toInt + 11).toNat := by rw [hA_38 40 (by decide), hA_34 40 (by decide), FA_12 40 (by decide)]
        rw [ev_50]
        refine bi_ne (tgt := 141) hx hb rfl rfl dX12_score_131 (by decide) (fun c_51 => ?_) (fun c_51 => ?_)
        · skip
          refine lv_iload hx hb dX12_score_141 (lv_at hl 0 rfl) ?_
          refine lv_iadd hx hb dX12_score_143 ?_
          refine lv_topi (fun x_52 ex_52 => ?_)
          have g_53 := z_rng (A 55 x2.toNatClampNeg)
          have f_45 := z_rem ex_45 rfl ti_4 (by decide)
          exact maI hQ hx hb hr hlk hP hS ⟨hT, FA, FF, (by (try dsimp only); (first | omega | (intro h9; omega) | (simp; done) | (refine ⟨?_, ?_⟩ <;> intros <;> first | trivial | omega) | (refine ⟨?_, ?_, ?_⟩ <;> intros <;> first | trivial | omega)))⟩ dX12_score_144
        · skip
          refine lv_iconst (v := 2) hx hb dX12_score_134 (by decide) ?_
          refine lv_iload hx hb dX12_score_135 (lv_at hl 0 rfl) ?_
          refine lv_imul hx hb dX12_score_137 ?_
          refine lv_topi (fun x_54 ex_54 => ?_)
          refine lv_goto (tgt := 143) hx hb dX12_score_138 (by decide) ?_
          refine lv_iadd hx hb dX12_score_143 ?_
          refine lv_topi (fun x_55 ex_55 => ?_)
          have g_56 := z_rng (A 55 x2.toNatClampNeg)
          have f_45 := z_rem ex_45 rfl ti_4 (by decide)
          exact maI hQ hx hb hr hlk hP hS ⟨hT, FA, FF, (by (try dsimp only); (first | omega | (intro h9; omega) | (simp; done) | (refine ⟨?_, ?_⟩ <;> intros <;> first | trivial | omega) | (refine ⟨?_, ?_, ?_⟩ <;> intros <;> first | trivial | omega)))⟩ dX12_score_144
    · skip
      refine lv_aload_n hx hb dX12_score_38 rfl (lv_at hl 1 rfl) ?_
      refine lv_bipush (v := 43) hx hb dX12_score_39 (by decide) ?_
      have hq_57 : (f_12 11).toInt ≤ 2000000000 := by ((try simp only [ti_43]); first | assumption | omega | (intros; omega))
      refine mcV (zrV (As := [.int 43]) (b := a0) (rest := []) C hs hP hS (c_X12_body l D K hM f_12 A_12 hT a0 ha0 hk0 43 hq_57) m_X12_body wm_X12_124 (zrecv hs hP ha0 (zF_11 hk0) rfl) ⟨by decide, by decide⟩ hl.1 (Nat.le_of_ble_eq_true rfl) dX12_score_41) hS (fun f_58 A_58 H locs p_58 hP hS => ?_)
      obtain ⟨hT, hA_58, hF_58, pp_58⟩ := p_58
      have pp_58 : (f_12 11).toInt ≤ (f_58 11).toInt ∧ (f_58 11).toInt ≤ (f_12 11).toInt + 1 ∧ ((f_12 12).toInt ≠ 0 → (f_58 11).toInt = (f_12 11).toInt) := pp_58
      have ev_59 : f_12 12 = f 12 := by rw [FF_12 12 (by decide)]
      rw [ev_59] at pp_58
      try simp only [ti_43] at pp_58
      have FA := frA FA hA_58 (by decide)
      have FF := frF FF hF_58 (by decide)
      refine lv_iconst (v := 0) hx hb dX12_score_44 (by decide) ?_
      refine lv_istore (lv' := [(5, .int 0), (4, .int (A 40 (x1.toInt + 4).toNat)), (0, .ref a0), (1, .int x1), (2, .int x2), (3, .int y_10)]) hx hb dX12_score_45 hl (by decide) rfl (fun ls hl => ?_)
      refine lv_iconst (v := 0) hx hb dX12_score_47 (by decide) ?_
      refine lv_istore (lv' := [(6, .int 0), (5, .int 0), (4, .int (A 40 (x1.toInt + 4).toNat)), (0, .ref a0), (1, .int x1), (2, .int x2), (3, .int y_10)]) hx hb dX12_score_48 hl (by decide) rfl (fun ls hl => ?_)
      have L_50_62 : ∀ (n_62 : Nat) (y_60 : Int32) (y_61 : Int32) (ls : Array Slot), (2147483648 - y_60.toInt).toNat < n_62 → 0 ≤ y_60.toInt → lv_has ls 7 [(6, .int y_60), (5, .int y_61), (4, .int (A 40 (x1.toInt + 4).toNat)), (0, .ref a0), (1, .int x1), (2, .int x2), (3, .int y_10)] → W p l e (rmd 2) s m args below meth c H locs 0 0 Q (F0 m 50 ls []) := by
        intro n_62
        induction n_62 with
        | zero => intro y_60 y_61 ls hm_62; exact absurd hm_62 (Nat.not_lt_zero _)
        | succ n_62 ih_62 =>
          intro y_60 y_61 ls hm_62 iv_63_0 hl
          refine lv_iload hx hb dX12_score_50 (lv_at hl 0 rfl) ?_
          refine lv_aload_n hx hb dX12_score_52 rfl (lv_at hl 3 rfl) ?_
          refine mg_16 C hs hP ha0 hk0 wf_X12_127 dX12_score_53 ?_
          have ev_64 : f_58 16 = f 16 := by rw [hF_58 16 (by decide), FF_12 16 (by decide)]
          rw [ev_64]
          have tf_65 : 0 ≤ (f 16).toInt ∧ (f 16).toInt ≤ 4 := by rw [← ev_64]; exact hT.1 16
          refine bi_ge (tgt := 88) hx hb rfl rfl dX12_score_56 (by decide) (fun c_66 => ?_) (fun c_66 => ?_)
          · skip
            refine lv_iload_n hx hb dX12_score_88 rfl (lv_at hl 6 rfl) ?_
            refine lv_iload hx hb dX12_score_89 (lv_at hl 1 rfl) ?_
            refine lv_isub hx hb dX12_score_91 ?_
            refine lv_topi (fun x_67 ex_67 => ?_)
            exact maI hQ hx hb hr hlk hP hS ⟨hT, FA, FF, (by (try dsimp only); (first | omega | (intro h9; omega) | (simp; done) | (refine ⟨?_, ?_⟩ <;> intros <;> first | trivial | omega) | (refine ⟨?_, ?_, ?_⟩ <;> intros <;> first | trivial | omega)))⟩ dX12_score_92
          · skip
            refine lv_iload hx hb dX12_score_59 (lv_at hl 1 rfl) ?_
            refine lv_aload_n hx hb dX12_score_61 rfl (lv_at hl 3 rfl) ?_
            refine mg_15 C hs hP ha0 hk0 wf_X12_39 dX12_score_62 ?_
            have hf_68 := hO.r (j := 15) ha0 hk0 (rfl : zX 11 15 = some (55, 4))
            refine lv_iload hx hb dX12_score_65 (lv_at hl 0 rfl) ?_
            have g_70 := z_rng y_60
            have hin_69 : vp_in y_60 (zn K (zr K a0 15)) := vp_in_iff.mpr (by rw [(hf_68.2.2 (by decide))]; refine ⟨?_, ?_⟩ <;> omega)
            refine mld_55 C hs hP hf_68.1 hf_68.2.1 hin_69 dX12_score_67 ?_
            have ev_71 : A_58 55 y_60.toNatClampNeg = A 55 y_60.toNatClampNeg := by rw [hA_58 55 (by decide), FA_12 55 (by decide)]
            have tv_72 := ra_55 hT (vp_in_iff.mp hin_69).1 (by have h7 := (vp_in_iff.mp hin_69).2; rw [(hf_68.2.2 (by decide))] at h7; exact h7)
            rw [ev_71] at tv_72
            rw [ev_71]
            refine lv_iconst (v := 4) hx hb dX12_score_68 (by decide) ?_
            refine lv_irem hx hb dX12_score_69 (by decide) ?_
            refine lv_topi (fun x_73 ex_73 => ?_)
            refine lv_iconst (v := 3) hx hb dX12_score_70 (by decide) ?_
            have J_79_76 : ∀ (y_75 : Int32) (ls : Array Slot), (y_75 = 0 ∨ y_75 = 1) → lv_has ls 7 [(0, .ref a0), (1, .int x1), (2, .int x2), (3, .int y_10), (4, .int (A 40 (x1.toInt + 4).toNat)), (5, .int y_61), (6, .int y_60)] → W p l e (rmd 2) s m args below meth c H locs 0 0 Q (F0 m 79 ls [.int y_75, .int y_61]) := by
              intro y_75 ls hb_y_75 hl
              refine lv_iadd hx hb dX12_score_79 ?_
              refine lv_topi (fun x_78 ex_78 => ?_)
              refine lv_istore (lv' := [(5, .int x_78), (0, .ref a0), (1, .int x1), (2, .int x2), (3, .int y_10), (4, .int (A 40 (x1.toInt + 4).toNat)), (6, .int y_60)]) hx hb dX12_score_80 hl (by decide) rfl (fun ls hl => ?_)
              obtain ⟨x_79, ex_79⟩ : ∃ y : Int32, y = y_60 + 1 := ⟨_, rfl⟩
              refine lv_iinc (v := x_79) (lv' := [(6, .int x_79), (5, .int x_78), (0, .ref a0), (1, .int x1), (2, .int x2), (3, .int y_10), (4, .int (A 40 (x1.toInt + 4).toNat))]) hx hb dX12_score_82 hl (k := 6) rfl (by rw [ex_79]; rfl) (by decide) rfl (fun ls hl => ?_)
              refine lv_goto (tgt := 50) hx hb dX12_score_85 (by decide) ?_
              obtain ⟨f_79, l_79, u_79⟩ := z_add ex_79 rfl ti_1
              try replace f_79 : x_79.toInt = y_60.toInt + 1 := by omega
              clear l_79 u_79
              have g_80 := z_rng (f 16)
              exact ih_62 x_79 x_78 _ (by omega) (by omega) (lv_sub hl [0, 1, 6, 2, 3, 4, 5] rfl)
            refine bi_ne (tgt := 78) hx hb rfl ti_3 dX12_score_71 (by decide) (fun c_74 => ?_) (fun c_74 => ?_)
            · skip
              refine lv_iconst (v := 0) hx hb dX12_score_78 (by decide) ?_
              exact J_79_76 0 _ (Or.inl rfl) (lv_sub hl [3, 4, 5, 6, 2, 1, 0] rfl)
            · skip
              refine lv_iconst (v := 1) hx hb dX12_score_74 (by decide) ?_
              refine lv_goto (tgt := 79) hx hb dX12_score_75 (by decide) ?_
              exact J_79_76 1 _ (Or.inr rfl) (lv_sub hl [3, 4, 5, 6, 2, 1, 0] rfl)
      have g_81 := z_rng (A 40 (x1.toInt + 4).toNat)
      exact L_50_62 _ 0 0 _ (Nat.lt_succ_self _) (by (try simp only [ti_0]); omega) (lv_sub hl [0, 1, 2, 3, 4, 5, 6] rfl)
  refine bi_ne (tgt := 22) hx hb rfl ti_4 dX12_score_11 (by decide) (fun c_7 => ?_) (fun c_7 => ?_)
  · skip
    exact J_22_11 f A _ _ 0 _ (Or.inl rfl) (by omega) FA FF hT hP hS (lv_sub hl [1, 2, 3, 0] rfl)
  · skip
    refine lv_aload_n hx hb dX12_score_14 rfl (lv_at hl 1 rfl) ?_
    refine lv_bipush (v := 45) hx hb dX12_score_15 (by decide) ?_
    have hq_82 : (f 11).toInt ≤ 2000000000 := by ((try simp only [ti_45]); first | assumption | omega | (intros; omega))
    refine mcV (zrV (As := [.int 45]) (b := a0) (rest := []) C hs hP hS (c_X12_body l D K hM f A hT a0 ha0 hk0 45 hq_82) m_X12_body wm_X12_124 (zrecv hs hP ha0 (zF_11 hk0) rfl) ⟨by decide, by decide⟩ hl.1 (Nat.le_of_ble_eq_true rfl) dX12_score_17) hS (fun f_83 A_83 H locs p_83 hP hS => ?_)
    obtain ⟨hT, hA_83, hF_83, pp_83⟩ := p_83
    have pp_83 : (f 11).toInt ≤ (f_83 11).toInt ∧ (f_83 11).toInt ≤ (f 11).toInt + 1 ∧ ((f 12).toInt ≠ 0 → (f_83 11).toInt = (f 11).toInt) := pp_83
    try simp only [ti_45] at pp_83
    have FA := frA FA hA_83 (by decide)
    have FF := frF FF hF_83 (by decide)
    refine lv_iconst (v := 1) hx hb dX12_score_20 (by decide) ?_
    refine lv_istore_n (lv' := [(3, .int 1), (0, .ref a0), (1, .int x1), (2, .int x2)]) hx hb dX12_score_21 rfl hl (by decide) rfl (fun ls hl => ?_)
    exact J_22_11 f_83 A_83 _ _ 1 _ (Or.inr rfl) (by omega) FA FF hT hP hS (lv_sub hl [1, 2, 3, 0] rfl)
set_option maxHeartbeats 4000000 in
set_option maxRecDepth 100000 in
theorem c_X12_settle (l : Launch) (D : va_G) (K : zK) (hM : mK K) (f : Nat → Int32) (A : Nat → Nat → Int32) (hT : mT f A) (a0 : Nat) (ha0 : a0 ∈ zl K) (hk0 : zk K a0 = 11) (x1 : Int32) (x2 : Int32) (hp0 : zRow x1.toInt) (hp1 : 0 ≤ x2.toInt ∧ x2.toInt ≤ 1) (hp2 : (f 11).toInt ≤ 1980000000) : Met l yX12_settle (zc yX12_settle cX12_settle 6 (some .int)) (rmd 1) (va_Pc [.ref a0, .int x1, .int x2] (zB D K (mV K f A))) (mQi D K (fun r f' A' => mT f' A' ∧ (∀ k, k ∉ ([50] : List Nat) → A' k = A k) ∧ (∀ k, k ∉ ([11] : List Nat) → f' k = f k) ∧ (f 11).toInt ≤ (f' 11).toInt ∧ (f' 11).toInt ≤ (f 11).toInt + 3 ∧ ((f 12).toInt ≠ 0 → (f' 11).toInt = (f 11).toInt))) 0 0 (zA K) := by
  refine zin (by decide) (Nat.le_of_ble_eq_true rfl) ?_
  intro p e s m args below meth c ls Q hQ C hr hlk hP hs hl
  have C : CallFix p m c cX12_settle 6 s args zw RX12 := C
  obtain ⟨hx, hb, hml, hown, hts⟩ := id C
  have hO := hM.1
  have hS : va_S (zA K) s.heap s.heap [] := va_S.rf
  have FA : ∀ k, k ∉ ([50] : List Nat) → A k = A k := fun _ _ => rfl
  have FF : ∀ k, k ∉ ([11] : List Nat) → f k = f k := fun _ _ => rfl
  have hl : lv_has ls 6 [(0, .ref a0), (1, .int x1), (2, .int x2)] := hl
  have hb0 := hp0.lin
  refine lv_aload_n hx hb dX12_settle_0 rfl (lv_at hl 0 rfl) ?_
  refine mg_0 C hs hP ha0 hk0 wf_X12_8 dX12_settle_1 ?_
  have hf_1 := hO.r (j := 0) ha0 hk0 (rfl : zX 11 0 = some (40, 47730))
  refine lv_iload_n hx hb dX12_settle_4 rfl (lv_at hl 1 rfl) ?_
  refine lv_iconst (v := 2) hx hb dX12_settle_5 (by decide) ?_
  refine lv_iadd hx hb dX12_settle_6 ?_
  refine lv_topi (fun x_2 ex_2 => ?_)
  have hi_hr_3 : zEq x_2.toInt (x1.toInt + 2) := by
    have g_4 := z_rng x1
    obtain ⟨f_2, l_2, u_2⟩ := z_add ex_2 rfl ti_2
    try replace f_2 : x_2.toInt = x1.toInt + 2 := by omega
    clear l_2 u_2
    show x_2.toInt = (x1.toInt + 2)
    omega
  have hl_hr_3 : (2 : Int) ≤ 2 ∧ 2 ≤ (2 : Int) := by decide
  have hid_hr_3 : (x1.toInt + 2) = x1.toInt + (2) := by simp only [Int.add_assoc, Int.add_sub_assoc]
  have hr_3 := z_cell (lo := 2) (hi := 8) hp0 hi_hr_3 hid_hr_3 hl_hr_3 (by decide)
  replace hid_hr_3 : zEq (x1.toInt + 2) (x1.toInt + (2)) := hid_hr_3
  have hin_5 : vp_in x_2 (zn K (zr K a0 0)) := vp_in_iff.mpr (by rw [(hf_1.2.2 (by decide))]; exact hr_3.in)
  refine mld_40 C hs hP hf_1.1 hf_1.2.1 hin_5 dX12_settle_7 ?_
  have ep_6 : x_2.toNatClampNeg = (x1.toInt + 2).toNat := z_posE hi_hr_3
  rw [ep_6]
  refine lv_iconst (v := 4) hx hb dX12_settle_8 (by decide) ?_
  have J_18_10 : ∀ (f_11 : Nat → Int32) (A_11 : Nat → Nat → Int32) (H : Heap) (locs : List Loc) (ls : Array Slot), ((f 11).toInt ≤ (f_11 11).toInt ∧ (f_11 11).toInt ≤ (f 11).toInt + 1 ∧ ((f 12).toInt ≠ 0 → (f_11 11).toInt = (f 11).toInt)) → (∀ k, k ∉ ([50] : List Nat) → A_11 k = A k) → (∀ k, k ∉ ([11] : List Nat) → f_11 k = f k) → mT f_11 A_11 → va_P D vwCl (zW K (mV K f_11 A_11)) H → va_S (zA K) s.heap H locs → lv_has ls 6 [(0, .ref a0), (1, .int x1), (2, .int x2)] → W p l e (rmd 1) s m args below meth c H locs 0 0 Q (F0 m 18 ls []) := by
    intro f_11 A_11 H locs ls iv_11_0 FA_11 FF_11 hT hP hS hl
    have FA := FA_11
    have FF := FF_11
    refine lv_aload_n hx hb dX12_settle_18 rfl (lv_at hl 0 rfl) ?_
    refine mg_0 C hs hP ha0 hk0 wf_X12_8 dX12_settle_19 ?_
    refine lv_iload_n hx hb dX12_settle_22 rfl (lv_at hl 1 rfl) ?_
    refine lv_bipush (v := 17) hx hb dX12_settle_23 (by decide) ?_
    refine lv_iadd hx hb dX12_settle_25 ?_
    refine lv_topi (fun x_13 ex_13 => ?_)
    refine lv_iload_n hx hb dX12_settle_26 rfl (lv_at hl 2 rfl) ?_
    refine lv_iadd hx hb dX12_settle_27 ?_
    refine lv_topi (fun x_14 ex_14 => ?_)
    have hi_hr_15 : zEq x_14.toInt (x1.toInt + x2.toInt + 17) := by
      have g_16 := z_rng x1
      obtain ⟨f_13, l_13, u_13⟩ := z_add ex_13 rfl ti_17
      try replace f_13 : x_13.toInt = x1.toInt + 17 := by omega
      clear l_13 u_13
      have g_17 := z_rng x2
      obtain ⟨f_14, l_14, u_14⟩ := z_add ex_14 rfl rfl
      try replace f_14 : x_14.toInt = x_13.toInt + x2.toInt := by omega
      clear l_14 u_14
      show x_14.toInt = (x1.toInt + x2.toInt + 17)
      omega
    have hl_hr_15 : 17 ≤ x2.toInt + 17 ∧ x2.toInt + 17 ≤ 18 := by
      have g_18 := z_rng x1
      have g_19 := z_rng x2
      omega
    have hid_hr_15 : (x1.toInt + x2.toInt + 17) = x1.toInt + (x2.toInt + 17) := by simp only [Int.add_assoc, Int.add_sub_assoc]
    have hr_15 := z_cell (lo := 10) (hi := 19) hp0 hi_hr_15 hid_hr_15 hl_hr_15 (by decide)
    replace hid_hr_15 : zEq (x1.toInt + x2.toInt + 17) (x1.toInt + (x2.toInt + 17)) := hid_hr_15
    have hin_20 : vp_in x_14 (zn K (zr K a0 0)) := vp_in_iff.mpr (by rw [(hf_1.2.2 (by decide))]; exact hr_15.in)
    refine mld_40 C hs hP hf_1.1 hf_1.2.1 hin_20 dX12_settle_28 ?_
    have ep_21 : x_14.toNatClampNeg = (x1.toInt + x2.toInt + 17).toNat := z_posE hi_hr_15
    rw [ep_21]
    have ev_22 : A_11 40 (x1.toInt + x2.toInt + 17).toNat = A 40 (x1.toInt + x2.toInt + 17).toNat := by rw [FA_11 40 (by decide)]
    rw [ev_22]
    refine lv_istore_n (lv' := [(3, .int (A 40 (x1.toInt + x2.toInt + 17).toNat)), (0, .ref a0), (1, .int x1), (2, .int x2)]) hx hb dX12_settle_29 rfl hl (by decide) rfl (fun ls hl => ?_)
    refine lv_aload_n hx hb dX12_settle_30 rfl (lv_at hl 1 rfl) ?_
    refine mg_0 C hs hP ha0 hk0 wf_X12_8 dX12_settle_31 ?_
    refine lv_iload_n hx hb dX12_settle_34 rfl (lv_at hl 2 rfl) ?_
    refine lv_iconst (v := 4) hx hb dX12_settle_35 (by decide) ?_
    refine lv_iadd hx hb dX12_settle_36 ?_
    refine lv_topi (fun x_23 ex_23 => ?_)
    have hi_hr_24 : zEq x_23.toInt (x1.toInt + 4) := by
      have g_25 := z_rng x1
      obtain ⟨f_23, l_23, u_23⟩ := z_add ex_23 rfl ti_4
      try replace f_23 : x_23.toInt = x1.toInt + 4 := by omega
      clear l_23 u_23
      show x_23.toInt = (x1.toInt + 4)
      omega
    have hl_hr_24 : (4 : Int) ≤ 4 ∧ 4 ≤ (4 : Int) := by decide
    have hid_hr_24 : (x1.toInt + 4) = x1.toInt + (4) := by simp only [Int.add_assoc, Int.add_sub_assoc]
    have hr_24 := z_cell (lo := 2) (hi := 8) hp0 hi_hr_24 hid_hr_24 hl_hr_24 (by decide)
    replace hid_hr_24 : zEq (x1.toInt + 4) (x1.toInt + (4)) := hid_hr_24
    have hin_26 : vp_in x_23 (zn K (zr K a0 0)) := vp_in_iff.mpr (by rw [(hf_1.2.2 (by decide))]; exact hr_24.in)
    refine mld_40 C hs hP hf_1.1 hf_1.2.1 hin_26 dX12_settle_37 ?_
    have ep_27 : x_23.toNatClampNeg = (x1.toInt + 4).toNat := z_posE hi_hr_24
    rw [ep_27]
    have ev_28 : A_11 40 (x1.toInt + 4).toNat = A 40 (x1.toInt + 4).toNat := by rw [FA_11 40 (by decide)]
    rw [ev_28]
    refine lv_iconst (v := 3) hx hb dX12_settle_38 (by decide) ?_
    have J_118_71 : ∀ (f_72 : Nat → Int32) (A_72 : Nat → Nat → Int32) (H : Heap) (locs : List Loc) (y_70 : Int32) (ls : Array Slot), ((f 11).toInt ≤ (f_72 11).toInt ∧ (f_72 11).toInt ≤ (f 11).toInt + 2 ∧ ((f 12).toInt ≠ 0 → (f_72 11).toInt = (f 11).toInt)) → (∀ k, k ∉ ([50] : List Nat) → A_72 k = A k) → (∀ k, k ∉ ([11] : List Nat) → f_72 k = f k) → mT f_72 A_72 → va_P D vwCl (zW K (mV K f_72 A_72)) H → va_S (zA K) s.heap H locs → lv_has ls 6 [(0, .ref a0), (1, .int x1), (2, .int x2), (3, .int y_70)] → W p l e (rmd 1) s m args below meth c H locs 0 0 Q (F0 m 118 ls []) := by
      intro f_72 A_72 H locs y_70 ls iv_72_0 FA_72 FF_72 hT hP hS hl
      have FA := FA_72
      have FF := FF_72
      refine lv_aload_n hx hb dX12_settle_118 rfl (lv_at hl 0 rfl) ?_
      refine lv_bipush (v := 51) hx hb dX12_settle_119 (by decide) ?_
      have hq_74 : (f_72 11).toInt ≤ 2000000000 := by ((try simp only [ti_51]); first | assumption | omega | (intros; omega))
      refine mcV (zrV (As := [.int 51]) (b := a0) (rest := []) C hs hP hS (c_X12_body l D K hM f_72 A_72 hT a0 ha0 hk0 51 hq_74) m_X12_body wm_X12_124 (zrecv hs hP ha0 (zF_11 hk0) rfl) ⟨by decide, by decide⟩ hl.1 (Nat.le_of_ble_eq_true rfl) dX12_settle_121) hS (fun f_75 A_75 H locs p_75 hP hS => ?_)
      obtain ⟨hT, hA_75, hF_75, pp_75⟩ := p_75
      have pp_75 : (f_72 11).toInt ≤ (f_75 11).toInt ∧ (f_75 11).toInt ≤ (f_72 11).toInt + 1 ∧ ((f_72 12).toInt ≠ 0 → (f_75 11).toInt = (f_72 11).toInt) := pp_75
      have ev_76 : f_72 12 = f 12 := by rw [FF_72 12 (by decide)]
      rw [ev_76] at pp_75
      try simp only [ti_51] at pp_75
      have FA := frA FA hA_75 (by decide)
      have FF := frF FF hF_75 (by decide)
      refine lv_iload_n hx hb dX12_settle_124 rfl (lv_at hl 3 rfl) ?_
      refine lv_aload_n hx hb dX12_settle_125 rfl (lv_at hl 0 rfl) ?_
      refine mg_0 C hs hP ha0 hk0 wf_X12_8 dX12_settle_126 ?_
      refine lv_iload_n hx hb dX12_settle_129 rfl (lv_at hl 1 rfl) ?_
      refine lv_bipush (v := 13) hx hb dX12_settle_130 (by decide) ?_
      refine lv_iadd hx hb dX12_settle_132 ?_
      refine lv_topi (fun x_77 ex_77 => ?_)
      have hi_hr_78 : zEq x_77.toInt (x1.toInt + 13) := by
        have g_79 := z_rng x1
        obtain ⟨f_77, l_77, u_77⟩ := z_add ex_77 rfl ti_13
        try replace f_77 : x_77.toInt = x1.toInt + 13 := by omega
        clear l_77 u_77
        show x_77.toInt = (x1.toInt + 13)
        omega
      have hl_hr_78 : (13 : Int) ≤ 13 ∧ 13 ≤ (13 : Int) := by decide
      have hid_hr_78 : (x1.toInt + 13) = x1.toInt + (13) := by simp only [Int.add_assoc, Int.add_sub_assoc]
      have hr_78 := z_cell (lo := 10) (hi := 19) hp0 hi_hr_78 hid_hr_78 hl_hr_78 (by decide)
      replace hid_hr_78 : zEq (x1.toInt + 13) (x1.toInt + (13)) := hid_hr_78
      have hin_80 : vp_in x_77 (zn K (zr K a0 0)) := vp_in_iff.mpr (by rw [(hf_1.2.2 (by decide))]; exact hr_78.in)
      refine mld_40 C hs hP hf_1.1 hf_1.2.1 hin_80 dX12_settle_133 ?_
      have ep_81 : x_77.toNatClampNeg = (x1.toInt + 13).toNat := z_posE hi_hr_78
      rw [ep_81]
      have ev_82 : A_75 40 (x1.toInt + 13).toNat = A 40 (x1.toInt + 13).toNat := by rw [hA_75 40 (by decide), FA_72 40 (by decide)]
      rw [ev_82]
      refine lv_ishl hx hb dX12_settle_134 ?_
      refine lv_topi (fun x_83 ex_83 => ?_)
      exact maI hQ hx hb hr hlk hP hS ⟨hT, FA, FF, (by (try dsimp only); (first | omega | (intro h9; omega) | (simp; done) | (refine ⟨?_, ?_⟩ <;> intros <;> first | trivial | omega) | (refine ⟨?_, ?_, ?_⟩ <;> intros <;> first | trivial | omega)))⟩ dX12_settle_135
    refine bi_ne (tgt := 118) hx hb rfl ti_3 dX12_settle_39 (by decide) (fun c_29 => ?_) (fun c_29 => ?_)
    · skip
      exact J_118_71 f_11 A_11 _ _ (A 40 (x1.toInt + x2.toInt + 17).toNat) _ (by omega) FA FF hT hP hS (lv_sub hl [1, 2, 3, 0] rfl)
    · skip
      refine lv_aload_n hx hb dX12_settle_42 rfl (lv_at hl 1 rfl) ?_
      refine lv_bipush (v := 52) hx hb dX12_settle_43 (by decide) ?_
      have hq_84 : (f_11 11).toInt ≤ 2000000000 := by ((try simp only [ti_52]); first | assumption | omega | (intros; omega))
      refine mcV (zrV (As := [.int 52]) (b := a0) (rest := []) C hs hP hS (c_X12_body l D K hM f_11 A_11 hT a0 ha0 hk0 52 hq_84) m_X12_body wm_X12_124 (zrecv hs hP ha0 (zF_11 hk0) rfl) ⟨by decide, by decide⟩ hl.1 (Nat.le_of_ble_eq_true rfl) dX12_settle_45) hS (fun f_85 A_85 H locs p_85 hP hS => ?_)
      obtain ⟨hT, hA_85, hF_85, pp_85⟩ := p_85
      have pp_85 : (f_11 11).toInt ≤ (f_85 11).toInt ∧ (f_85 11).toInt ≤ (f_11 11).toInt + 1 ∧ ((f_11 12).toInt ≠ 0 → (f_85 11).toInt = (f_11 11).toInt) := pp_85
      have ev_86 : f_11 12 = f 12 := by rw [FF_11 12 (by decide)]
      rw [ev_86] at pp_85
      try simp only [ti_52] at pp_85
      have FA := frA FA hA_85 (by decide)
      have FF := frF FF hF_85 (by decide)
      refine lv_aload_n hx hb dX12_settle_48 rfl (lv_at hl 1 rfl) ?_
      refine mg_0 C hs hP ha0 hk0 wf_X12_8 dX12_settle_49 ?_
      refine lv_iload_n hx hb dX12_settle_52 rfl (lv_at hl 2 rfl) ?_
      refine lv_bipush (v := 10) hx hb dX12_settle_53 (by decide) ?_
      refine lv_iadd hx hb dX12_settle_55 ?_
      refine lv_topi (fun x_87 ex_87 => ?_)
      have hi_hr_88 : zEq x_87.toInt (x1.toInt + 10) := by
        have g_89 := z_rng x1
        obtain ⟨f_87, l_87, u_87⟩ := z_add ex_87 rfl ti_10
        try replace f_87 : x_87.toInt = x1.toInt + 10 := by omega
        clear l_87 u_87
        show x_87.toInt = (x1.toInt + 10)
        omega
      have hl_hr_88 : (10 : Int) ≤ 10 ∧ 10 ≤ (10 : Int) := by decide
      have hid_hr_88 : (x1.toInt + 10) = x1.toInt + (10) := by simp only [Int.add_assoc, Int.add_sub_assoc]
      have hr_88 := z_cell (lo := 10) (hi := 19) hp0 hi_hr_88 hid_hr_88 hl_hr_88 (by decide)
      replace hid_hr_88 : zEq (x1.toInt + 10) (x1.toInt + (10)) := hid_hr_88
      have hin_90 : vp_in x_87 (zn K (zr K a0 0)) := vp_in_iff.mpr (by rw [(hf_1.2.2 (by decide))]; exact hr_88.in)
      refine mld_40 C hs hP hf_1.1 hf_1.2.1 hin_90 dX12_settle_56 ?_
      have ep_91 : x_87.toNatClampNeg = (x1.toInt + 10).toNat := z_posE hi_hr_88
      rw [ep_91]
      have ev_92 : A_85 40 (x1.toInt + 10).toNat = A 40 (x1.toInt + 10).toNat := by rw [hA_85 40 (by decide), FA_11 40 (by decide)]
      rw [ev_92]
      refine lv_istore (lv' := [(4, .int (A 40 (x1.toInt + 10).toNat)), (3, .int (A 40 (x1.toInt + x2.toInt + 17).toNat)), (0, .ref a0), (1, .int x1), (2, .int x2)]) hx hb dX12_settle_57 hl (by decide) rfl (fun ls hl => ?_)
      refine lv_aload_n hx hb dX12_settle_59 rfl (lv_at hl 2 rfl) ?_
      refine mg_0 C hs hP ha0 hk0 wf_X12_8 dX12_settle_60 ?_
      refine lv_iload_n hx hb dX12_settle_63 rfl (lv_at hl 3 rfl) ?_
      refine lv_bipush (v := 15) hx hb dX12_settle_64 (by decide) ?_
      refine lv_iadd hx hb dX12_settle_66 ?_
      refine lv_topi (fun x_93 ex_93 => ?_)
      refine lv_iload_n hx hb dX12_settle_67 rfl (lv_at hl 4 rfl) ?_
      refine lv_iadd hx hb dX12_settle_68 ?_
      refine lv_topi (fun x_94 ex_94 => ?_)
      have hi_hr_95 : zEq x_94.toInt (x1.toInt + x2.toInt + 15) := by
        have g_96 := z_rng x1
        obtain ⟨f_93, l_93, u_93⟩ := z_add ex_93 rfl ti_15
        try replace f_93 : x_93.toInt = x1.toInt + 15 := by omega
        clear l_93 u_93
        have g_97 := z_rng x2
        obtain ⟨f_94, l_94, u_94⟩ := z_add ex_94 rfl rfl
        try replace f_94 : x_94.toInt = x_93.toInt + x2.toInt := by omega
        clear l_94 u_94
        show x_94.toInt = (x1.toInt + x2.toInt + 15)
        omega
      have hl_hr_95 : 15 ≤ x2.toInt + 15 ∧ x2.toInt + 15 ≤ 16 := by
        have g_98 := z_rng x1
        have g_99 := z_rng x2
        omega
      have hid_hr_95 : (x1.toInt + x2.toInt + 15) = x1.toInt + (x2.toInt + 15) := by simp only [Int.add_assoc, Int.add_sub_assoc]
      have hr_95 := z_cell (lo := 10) (hi := 19) hp0 hi_hr_95 hid_hr_95 hl_hr_95 (by decide)
      replace hid_hr_95 : zEq (x1.toInt + x2.toInt + 15) (x1.toInt + (x2.toInt + 15)) := hid_hr_95
      have hin_100 : vp_in x_94 (zn K (zr K a0 0)) := vp_in_iff.mpr (by rw [(hf_1.2.2 (by decide))]; exact hr_95.in)
      refine mld_40 C hs hP hf_1.1 hf_1.2.1 hin_100 dX12_settle_69 ?_
      have ep_101 : x_94.toNatClampNeg = (x1.toInt + x2.toInt + 15).toNat := z_posE hi_hr_95
      rw [ep_101]
      have ev_102 : A_85 40 (x1.toInt + x2.toInt + 15).toNat = A 40 (x1.toInt + x2.toInt + 15).toNat := by rw [hA_85 40 (by decide), FA_11 40 (by decide)]
      rw [ev_102]
      refine lv_istore (lv' := [(5, .int (A 40 (x1.toInt + x2.toInt + 15).toNat)), (4, .int (A 40 (x1.toInt + 10).toNat)), (3, .int (A 40 (x1.toInt + x2.toInt + 17).toNat)), (0, .ref a0), (1, .int x1), (2, .int x2)]) hx hb dX12_settle_70 hl (by decide) rfl (fun ls hl => ?_)
      refine lv_iload hx hb dX12_settle_72 (lv_at hl 1 rfl) ?_
      refine bz_le (tgt := 118) hx hb rfl dX12_settle_74 (by decide) (fun c_103 => ?_) (fun c_103 => ?_)
      · skip
        exact J_118_71 f_85 A_85 _ _ (A 40 (x1.toInt + x2.toInt + 17).toNat) _ (by omega) FA FF hT hP hS (lv_sub hl [3, 4, 5, 2] rfl)
      · skip
        refine lv_aload_n hx hb dX12_settle_77 rfl (lv_at hl 3 rfl) ?_
        refine mg_0 C hs hP ha0 hk0 wf_X12_8 dX12_settle_78 ?_
        refine lv_iload_n hx hb dX12_settle_81 rfl (lv_at hl 4 rfl) ?_
        refine lv_bipush (v := 12) hx hb dX12_settle_82 (by decide) ?_
        refine lv_iadd hx hb dX12_settle_84 ?_
        refine lv_topi (fun x_104 ex_104 => ?_)
        have hi_hr_105 : zEq x_104.toInt (x1.toInt + 12) := by
          have g_106 := z_rng x1
          obtain ⟨f_104, l_104, u_104⟩ := z_add ex_104 rfl ti_12
          try replace f_104 : x_104.toInt = x1.toInt + 12 := by omega
          clear l_104 u_104
          show x_104.toInt = (x1.toInt + 12)
          omega
        have hl_hr_105 : (12 : Int) ≤ 12 ∧ 12 ≤ (12 : Int) := by decide
        have hid_hr_105 : (x1.toInt + 12) = x1.toInt + (12) := by simp only [Int.add_assoc, Int.add_sub_assoc]
        have hr_105 := z_cell (lo := 10) (hi := 19) hp0 hi_hr_105 hid_hr_105 hl_hr_105 (by decide)
        replace hid_hr_105 : zEq (x1.toInt + 12) (x1.toInt + (12)) := hid_hr_105
        have hin_107 : vp_in x_104 (zn K (zr K a0 0)) := vp_in_iff.mpr (by rw [(hf_1.2.2 (by decide))]; exact hr_105.in)
        refine mld_40 C hs hP hf_1.1 hf_1.2.1 hin_107 dX12_settle_85 ?_
        have ep_108 : x_104.toNatClampNeg = (x1.toInt + 12).toNat := z_posE hi_hr_105
        rw [ep_108]
        have ev_109 : A_85 40 (x1.toInt + 12).toNat = A 40 (x1.toInt + 12).toNat := by rw [hA_85 40 (by decide), FA_11 40 (by decide)]
        rw [ev_109]
        refine lv_iconst (v := 2) hx hb dX12_settle_86 (by decide) ?_
        refine lv_irem hx hb dX12_settle_87 (by decide) ?_
        refine lv_topi (fun x_110 ex_110 => ?_)
        refine lv_iload_n hx hb dX12_settle_88 rfl (lv_at hl 5 rfl) ?_
        refine bi_ne (tgt := 118) hx hb rfl rfl dX12_settle_89 (by decide) (fun c_111 => ?_) (fun c_111 => ?_)
        · skip
          exact J_118_71 f_85 A_85 _ _ (A 40 (x1.toInt + x2.toInt + 17).toNat) _ (by omega) FA FF hT hP hS (lv_sub hl [3, 4, 5, 2] rfl)
        · skip
          refine lv_iload hx hb dX12_settle_92 (lv_at hl 0 rfl) ?_
          refine lv_iload hx hb dX12_settle_94 (lv_at hl 1 rfl) ?_
          have J_117_118 : ∀ (y_117 : Int32) (ls : Array Slot), lv_has ls 6 [(0, .ref a0), (1, .int x1), (2, .int x2), (3, .int (A 40 (x1.toInt + x2.toInt + 17).toNat)), (4, .int (A 40 (x1.toInt + 10).toNat)), (5, .int (A 40 (x1.toInt + x2.toInt + 15).toNat))] → W p l e (rmd 1) s m args below meth c H locs 0 0 Q (F0 m 117 ls [.int y_117]) := by
            intro y_117 ls hl
            refine lv_istore_n (lv' := [(3, .int y_117), (0, .ref a0), (1, .int x1), (2, .int x2), (4, .int (A 40 (x1.toInt + 10).toNat)), (5, .int (A 40 (x1.toInt + x2.toInt + 15).toNat))]) hx hb dX12_settle_117 rfl hl (by decide) rfl (fun ls hl => ?_)
            exact J_118_71 f_85 A_85 _ _ y_117 _ (by omega) FA FF hT hP hS (lv_sub hl [1, 2, 3, 0] rfl)
          refine bi_lt (tgt := 109) hx hb rfl rfl dX12_settle_96 (by decide) (fun c_112 => ?_) (fun c_112 => ?_)
          · skip
            refine lv_bipush (v := 10) hx hb dX12_settle_109 (by decide) ?_
            refine lv_iload hx hb dX12_settle_111 (lv_at hl 0 rfl) ?_
            refine lv_iload hx hb dX12_settle_113 (lv_at hl 1 rfl) ?_
            refine lv_isub hx hb dX12_settle_115 ?_
            refine lv_topi (fun x_120 ex_120 => ?_)
            refine lv_imul hx hb dX12_settle_116 ?_
            refine lv_topi (fun x_121 ex_121 => ?_)
            exact J_117_118 x_121 _ (lv_sub hl [3, 4, 5, 2, 1, 0] rfl)
          · skip
            refine lv_iload_n hx hb dX12_settle_99 rfl (lv_at hl 2 rfl) ?_
            refine lv_bipush (v := 10) hx hb dX12_settle_100 (by decide) ?_
            refine lv_iload hx hb dX12_settle_102 (lv_at hl 1 rfl) ?_
            refine lv_imul hx hb dX12_settle_104 ?_
            refine lv_topi (fun x_122 ex_122 => ?_)
            refine lv_iadd hx hb dX12_settle_105 ?_
            refine lv_topi (fun x_123 ex_123 => ?_)
            refine lv_goto (tgt := 117) hx hb dX12_settle_106 (by decide) ?_
            exact J_117_118 x_123 _ (lv_sub hl [3, 4, 5, 2, 1, 0] rfl)
  refine bi_ne (tgt := 18) hx hb rfl ti_4 dX12_settle_9 (by decide) (fun c_7 => ?_) (fun c_7 => ?_)
  · skip
    exact J_18_10 f A _ _ _ (by omega) FA FF hT hP hS (lv_sub hl [0, 1, 2] rfl)
  · skip
    refine lv_aload_n hx hb dX12_settle_12 rfl (lv_at hl 0 rfl) ?_
    refine lv_bipush (v := 53) hx hb dX12_settle_13 (by decide) ?_
    have hq_124 : (f 11).toInt ≤ 2000000000 := by ((try simp only [ti_53]); first | assumption | omega | (intros; omega))
    refine mcV (zrV (As := [.int 53]) (b := a0) (rest := []) C hs hP hS (c_X12_body l D K hM f A hT a0 ha0 hk0 53 hq_124) m_X12_body wm_X12_124 (zrecv hs hP ha0 (zF_11 hk0) rfl) ⟨by decide, by decide⟩ hl.1 (Nat.le_of_ble_eq_true rfl) dX12_settle_15) hS (fun f_125 A_125 H locs p_125 hP hS => ?_)
    obtain ⟨hT, hA_125, hF_125, pp_125⟩ := p_125
    have pp_125 : (f 11).toInt ≤ (f_125 11).toInt ∧ (f_125 11).toInt ≤ (f 11).toInt + 1 ∧ ((f 12).toInt ≠ 0 → (f_125 11).toInt = (f 11).toInt) := pp_125
    try simp only [ti_53] at pp_125
    have FA := frA FA hA_125 (by decide)
    have FF := frF FF hF_125 (by decide)
    exact J_18_10 f_125 A_125 _ _ _ (by omega) FA FF hT hP hS (lv_sub hl [0, 1, 2] rfl)
set_option maxHeartbeats 4000000 in
set_option maxRecDepth 100000 in
theorem c_X12_sizeOf (l : Launch) (D : va_G) (K : zK) (hM : mK K) (f : Nat → Int32) (A : Nat → Nat → Int32) (hT : mT f A) (a0 : Nat) (ha0 : a0 ∈ zl K) (hk0 : zk K a0 = 11) (x1 : Int32) (hp0 : zRow x1.toInt) : Met l yX12_sizeOf (zc yX12_sizeOf cX12_sizeOf 3 (some .int)) (rmd 0) (va_Pc [.ref a0, .int x1] (zB D K (mV K f A))) (vp_Si (fun r => 0 ≤ r.toInt ∧ r.toInt ≤ 15)) 0 0 (fun _ => False) := by
  refine zin (by decide) (Nat.le_of_ble_eq_true rfl) ?_
  intro p e s m args below meth c ls Q hQ C hr hlk hP hs hl
  have C : CallFix p m c cX12_sizeOf 3 s args zw RX12 := C
  obtain ⟨hx, hb, hml, hown, hts⟩ := id C
  have hO := hM.1
  have hS : va_S (zA K) s.heap s.heap [] := va_S.rf
  have hl : lv_has ls 3 [(0, .ref a0), (1, .int x1)] := hl
  have hb0 := hp0.lin
  refine lv_aload_n hx hb dX12_sizeOf_0 rfl (lv_at hl 0 rfl) ?_
  refine mg_0 C hs hP ha0 hk0 wf_X12_8 dX12_sizeOf_1 ?_
  have hf_1 := hO.r (j := 0) ha0 hk0 (rfl : zX 11 0 = some (40, 47730))
  refine lv_iload_n hx hb dX12_sizeOf_4 rfl (lv_at hl 1 rfl) ?_
  refine lv_iconst (v := 1) hx hb dX12_sizeOf_5 (by decide) ?_
  refine lv_iadd hx hb dX12_sizeOf_6 ?_
  refine lv_topi (fun x_2 ex_2 => ?_)
  have hi_hr_3 : zEq x_2.toInt (x1.toInt + 1) := by
    have g_4 := z_rng x1
    obtain ⟨f_2, l_2, u_2⟩ := z_add ex_2 rfl ti_1
    try replace f_2 : x_2.toInt = x1.toInt + 1 := by omega
    clear l_2 u_2
    show x_2.toInt = (x1.toInt + 1)
    omega
  have hl_hr_3 : (1 : Int) ≤ 1 ∧ 1 ≤ (1 : Int) := by decide
  have hid_hr_3 : (x1.toInt + 1) = x1.toInt + (1) := by simp only [Int.add_assoc, Int.add_sub_assoc]
  have hr_3 := z_cell (lo := 1) (hi := 1) hp0 hi_hr_3 hid_hr_3 hl_hr_3 (by decide)
  replace hid_hr_3 : zEq (x1.toInt + 1) (x1.toInt + (1)) := hid_hr_3
  have hin_5 : vp_in x_2 (zn K (zr K a0 0)) := vp_in_iff.mpr (by rw [(hf_1.2.2 (by decide))]; exact hr_3.in)
  refine mld_40 C hs hP hf_1.1 hf_1.2.1 hin_5 dX12_sizeOf_7 ?_
  have ep_6 : x_2.toNatClampNeg = (x1.toInt + 1).toNat := z_posE hi_hr_3
  rw [ep_6]
  have tv_7 := rv_1 hT hr_3
  rw [ep_6] at tv_7
  refine lv_istore_n (lv' := [(2, .int (A 40 (x1.toInt + 1).toNat)), (0, .ref a0), (1, .int x1)]) hx hb dX12_sizeOf_8 rfl hl (by decide) rfl (fun ls hl => ?_)
  refine lv_aload_n hx hb dX12_sizeOf_9 rfl (lv_at hl 1 rfl) ?_
  refine mg_0 C hs hP ha0 hk0 wf_X12_8 dX12_sizeOf_10 ?_
  refine lv_iload_n hx hb dX12_sizeOf_13 rfl (lv_at hl 2 rfl) ?_
  refine lv_iconst (v := 2) hx hb dX12_sizeOf_14 (by decide) ?_
  refine lv_iadd hx hb dX12_sizeOf_15 ?_
  refine lv_topi (fun x_8 ex_8 => ?_)
  have hi_hr_9 : zEq x_8.toInt (x1.toInt + 2) := by
    have g_10 := z_rng x1
    obtain ⟨f_8, l_8, u_8⟩ := z_add ex_8 rfl ti_2
    try replace f_8 : x_8.toInt = x1.toInt + 2 := by omega
    clear l_8 u_8
    show x_8.toInt = (x1.toInt + 2)
    omega
  have hl_hr_9 : (2 : Int) ≤ 2 ∧ 2 ≤ (2 : Int) := by decide
  have hid_hr_9 : (x1.toInt + 2) = x1.toInt + (2) := by simp only [Int.add_assoc, Int.add_sub_assoc]
  have hr_9 := z_cell (lo := 2) (hi := 8) hp0 hi_hr_9 hid_hr_9 hl_hr_9 (by decide)
  replace hid_hr_9 : zEq (x1.toInt + 2) (x1.toInt + (2)) := hid_hr_9
  have hin_11 : vp_in x_8 (zn K (zr K a0 0)) := vp_in_iff.mpr (by rw [(hf_1.2.2 (by decide))]; exact hr_9.in)
  refine mld_40 C hs hP hf_1.1 hf_1.2.1 hin_11 dX12_sizeOf_16 ?_
  have ep_12 : x_8.toNatClampNeg = (x1.toInt + 2).toNat := z_posE hi_hr_9
  rw [ep_12]
  refine lv_iconst (v := 4) hx hb dX12_sizeOf_17 (by decide) ?_
  refine bi_eq (tgt := 27) hx hb rfl ti_4 dX12_sizeOf_18 (by decide) (fun c_13 => ?_) (fun c_13 => ?_)
  · skip
    refine lv_iload_n hx hb dX12_sizeOf_27 rfl (lv_at hl 0 rfl) ?_
    refine lv_bipush (v := 8) hx hb dX12_sizeOf_28 (by decide) ?_
    refine bi_ge (tgt := 37) hx hb rfl ti_8 dX12_sizeOf_30 (by decide) (fun c_14 => ?_) (fun c_14 => ?_)
    · skip
      refine lv_iload_n hx hb dX12_sizeOf_37 rfl (lv_at hl 0 rfl) ?_
      refine lv_bipush (v := 8) hx hb dX12_sizeOf_38 (by decide) ?_
      refine lv_idiv hx hb dX12_sizeOf_40 (by decide) ?_
      refine lv_topi (fun x_15 ex_15 => ?_)
      have g_16 := z_rng (A 40 (x1.toInt + 1).toNat)
      have f_d15 := z_div ex_15 rfl ti_8 (by omega) (by decide)
      exact zaS hQ hx hb hr hlk (by (try dsimp only); (first | omega | (intro h9; omega) | (simp; done) | (refine ⟨?_, ?_⟩ <;> intros <;> first | trivial | omega) | (refine ⟨?_, ?_, ?_⟩ <;> intros <;> first | trivial | omega))) dX12_sizeOf_41
    · skip
      refine lv_iconst (v := 1) hx hb dX12_sizeOf_33 (by decide) ?_
      refine lv_goto (tgt := 41) hx hb dX12_sizeOf_34 (by decide) ?_
      exact zaS hQ hx hb hr hlk (by (try dsimp only); (try simp only [ti_1]); (first | omega | (intro h9; omega) | (simp; done) | (refine ⟨?_, ?_⟩ <;> intros <;> first | trivial | omega) | (refine ⟨?_, ?_, ?_⟩ <;> intros <;> first | trivial | omega))) dX12_sizeOf_41
  · skip
    refine lv_iload_n hx hb dX12_sizeOf_21 rfl (lv_at hl 0 rfl) ?_
    refine lv_iconst (v := 4) hx hb dX12_sizeOf_22 (by decide) ?_
    refine lv_idiv hx hb dX12_sizeOf_23 (by decide) ?_
    refine lv_topi (fun x_17 ex_17 => ?_)
    refine lv_goto (tgt := 41) hx hb dX12_sizeOf_24 (by decide) ?_
    have g_18 := z_rng (A 40 (x1.toInt + 1).toNat)
    have f_d17 := z_div ex_17 rfl ti_4 (by omega) (by decide)
    exact zaS hQ hx hb hr hlk (by (try dsimp only); (first | omega | (intro h9; omega) | (simp; done) | (refine ⟨?_, ?_⟩ <;> intros <;> first | trivial | omega) | (refine ⟨?_, ?_, ?_⟩ <;> intros <;> first | trivial | omega))) dX12_sizeOf_41
set_option maxHeartbeats 4000000 in
set_option maxRecDepth 100000 in
theorem c_X12_isOpen (l : Launch) (D : va_G) (K : zK) (hM : mK K) (f : Nat → Int32) (A : Nat → Nat → Int32) (hT : mT f A) (a0 : Nat) (ha0 : a0 ∈ zl K) (hk0 : zk K a0 = 11) (x1 : Int32) (x2 : Int32) (hp0 : zRow x1.toInt) (hp1 : 0 ≤ x2.toInt ∧ x2.toInt ≤ 3) : Met l yX12_isOpen (zc yX12_isOpen cX12_isOpen 3 (some .boolean)) (rmd 0) (va_Pc [.ref a0, .int x1, .int x2] (zB D K (mV K f A))) (vp_Si (fun r => (r = 0 ∨ r = 1) ∧ (r.toInt ≠ 0 → (A 40 (x1.toInt + 5).toNat).toInt = 1 ∧ (A 40 (x1.toInt + x2.toInt + 35).toNat).toInt = 1))) 0 0 (fun _ => False) := by
  refine zin (by decide) (Nat.le_of_ble_eq_true rfl) ?_
  intro p e s m args below meth c ls Q hQ C hr hlk hP hs hl
  have C : CallFix p m c cX12_isOpen 3 s args zw RX12 := C
  obtain ⟨hx, hb, hml, hown, hts⟩ := id C
  have hO := hM.1
  have hS : va_S (zA K) s.heap s.heap [] := va_S.rf
  have hl : lv_has ls 3 [(0, .ref a0), (1, .int x1), (2, .int x2)] := hl
  have hb0 := hp0.lin
  refine lv_aload_n hx hb dX12_isOpen_0 rfl (lv_at hl 0 rfl) ?_
  refine mg_0 C hs hP ha0 hk0 wf_X12_8 dX12_isOpen_1 ?_
  have hf_1 := hO.r (j := 0) ha0 hk0 (rfl : zX 11 0 = some (40, 47730))
  refine lv_iload_n hx hb dX12_isOpen_4 rfl (lv_at hl 1 rfl) ?_
  refine lv_iconst (v := 5) hx hb dX12_isOpen_5 (by decide) ?_
  refine lv_iadd hx hb dX12_isOpen_6 ?_
  refine lv_topi (fun x_2 ex_2 => ?_)
  have hi_hr_3 : zEq x_2.toInt (x1.toInt + 5) := by
    have g_4 := z_rng x1
    obtain ⟨f_2, l_2, u_2⟩ := z_add ex_2 rfl ti_5
    try replace f_2 : x_2.toInt = x1.toInt + 5 := by omega
    clear l_2 u_2
    show x_2.toInt = (x1.toInt + 5)
    omega
  have hl_hr_3 : (5 : Int) ≤ 5 ∧ 5 ≤ (5 : Int) := by decide
  have hid_hr_3 : (x1.toInt + 5) = x1.toInt + (5) := by simp only [Int.add_assoc, Int.add_sub_assoc]
  have hr_3 := z_cell (lo := 2) (hi := 8) hp0 hi_hr_3 hid_hr_3 hl_hr_3 (by decide)
  replace hid_hr_3 : zEq (x1.toInt + 5) (x1.toInt + (5)) := hid_hr_3
  have hin_5 : vp_in x_2 (zn K (zr K a0 0)) := vp_in_iff.mpr (by rw [(hf_1.2.2 (by decide))]; exact hr_3.in)
  refine mld_40 C hs hP hf_1.1 hf_1.2.1 hin_5 dX12_isOpen_7 ?_
  have ep_6 : x_2.toNatClampNeg = (x1.toInt + 5).toNat := z_posE hi_hr_3
  rw [ep_6]
  refine lv_iconst (v := 1) hx hb dX12_isOpen_8 (by decide) ?_
  refine bi_ne (tgt := 43) hx hb rfl ti_1 dX12_isOpen_9 (by decide) (fun c_7 => ?_) (fun c_7 => ?_)
  · skip
    refine lv_iconst (v := 0) hx hb dX12_isOpen_43 (by decide) ?_
    exact zaSz hQ hx hb hr hlk (Or.inl rfl) ⟨(Or.inl rfl), (by (try dsimp only); (try simp only [ti_0]); (first | omega | (intro h9; omega) | (simp; done) | (refine ⟨?_, ?_⟩ <;> intros <;> first | trivial | omega) | (refine ⟨?_, ?_, ?_⟩ <;> intros <;> first | trivial | omega)))⟩ dX12_isOpen_44
  · skip
    refine lv_aload_n hx hb dX12_isOpen_12 rfl (lv_at hl 0 rfl) ?_
    refine mg_0 C hs hP ha0 hk0 wf_X12_8 dX12_isOpen_13 ?_
    refine lv_iload_n hx hb dX12_isOpen_16 rfl (lv_at hl 1 rfl) ?_
    refine lv_bipush (v := 14) hx hb dX12_isOpen_17 (by decide) ?_
    refine lv_iadd hx hb dX12_isOpen_19 ?_
    refine lv_topi (fun x_8 ex_8 => ?_)
    have hi_hr_9 : zEq x_8.toInt (x1.toInt + 14) := by
      have g_10 := z_rng x1
      obtain ⟨f_8, l_8, u_8⟩ := z_add ex_8 rfl ti_14
      try replace f_8 : x_8.toInt = x1.toInt + 14 := by omega
      clear l_8 u_8
      show x_8.toInt = (x1.toInt + 14)
      omega
    have hl_hr_9 : (14 : Int) ≤ 14 ∧ 14 ≤ (14 : Int) := by decide
    have hid_hr_9 : (x1.toInt + 14) = x1.toInt + (14) := by simp only [Int.add_assoc, Int.add_sub_assoc]
    have hr_9 := z_cell (lo := 10) (hi := 19) hp0 hi_hr_9 hid_hr_9 hl_hr_9 (by decide)
    replace hid_hr_9 : zEq (x1.toInt + 14) (x1.toInt + (14)) := hid_hr_9
    have hin_11 : vp_in x_8 (zn K (zr K a0 0)) := vp_in_iff.mpr (by rw [(hf_1.2.2 (by decide))]; exact hr_9.in)
    refine mld_40 C hs hP hf_1.1 hf_1.2.1 hin_11 dX12_isOpen_20 ?_
    have ep_12 : x_8.toNatClampNeg = (x1.toInt + 14).toNat := z_posE hi_hr_9
    rw [ep_12]
    refine bz_ne (tgt := 43) hx hb rfl dX12_isOpen_21 (by decide) (fun c_13 => ?_) (fun c_13 => ?_)
    · skip
      refine lv_iconst (v := 0) hx hb dX12_isOpen_43 (by decide) ?_
      exact zaSz hQ hx hb hr hlk (Or.inl rfl) ⟨(Or.inl rfl), (by (try dsimp only); (try simp only [ti_0]); (first | omega | (intro h9; omega) | (simp; done) | (refine ⟨?_, ?_⟩ <;> intros <;> first | trivial | omega) | (refine ⟨?_, ?_, ?_⟩ <;> intros <;> first | trivial | omega)))⟩ dX12_isOpen_44
    · skip
      refine lv_aload_n hx hb dX12_isOpen_24 rfl (lv_at hl 0 rfl) ?_
      refine mg_0 C hs hP ha0 hk0 wf_X12_8 dX12_isOpen_25 ?_
      refine lv_iload_n hx hb dX12_isOpen_28 rfl (lv_at hl 1 rfl) ?_
      refine lv_bipush (v := 35) hx hb dX12_isOpen_29 (by decide) ?_
      refine lv_iadd hx hb dX12_isOpen_31 ?_
      refine lv_topi (fun x_14 ex_14 => ?_)
      refine lv_iload_n hx hb dX12_isOpen_32 rfl (lv_at hl 2 rfl) ?_
      refine lv_iadd hx hb dX12_isOpen_33 ?_
      refine lv_topi (fun x_15 ex_15 => ?_)
      have hi_hr_16 : zEq x_15.toInt (x1.toInt + x2.toInt + 35) := by
        have g_17 := z_rng x1
        obtain ⟨f_14, l_14, u_14⟩ := z_add ex_14 rfl ti_35
        try replace f_14 : x_14.toInt = x1.toInt + 35 := by omega
        clear l_14 u_14
        have g_18 := z_rng x2
        obtain ⟨f_15, l_15, u_15⟩ := z_add ex_15 rfl rfl
        try replace f_15 : x_15.toInt = x_14.toInt + x2.toInt := by omega
        clear l_15 u_15
        show x_15.toInt = (x1.toInt + x2.toInt + 35)
        omega
      have hl_hr_16 : 35 ≤ x2.toInt + 35 ∧ x2.toInt + 35 ≤ 38 := by
        have g_19 := z_rng x1
        have g_20 := z_rng x2
        omega
      have hid_hr_16 : (x1.toInt + x2.toInt + 35) = x1.toInt + (x2.toInt + 35) := by simp only [Int.add_assoc, Int.add_sub_assoc]
      have hr_16 := z_cell (lo := 35) (hi := 38) hp0 hi_hr_16 hid_hr_16 hl_hr_16 (by decide)
      replace hid_hr_16 : zEq (x1.toInt + x2.toInt + 35) (x1.toInt + (x2.toInt + 35)) := hid_hr_16
      have hin_21 : vp_in x_15 (zn K (zr K a0 0)) := vp_in_iff.mpr (by rw [(hf_1.2.2 (by decide))]; exact hr_16.in)
      refine mld_40 C hs hP hf_1.1 hf_1.2.1 hin_21 dX12_isOpen_34 ?_
      have ep_22 : x_15.toNatClampNeg = (x1.toInt + x2.toInt + 35).toNat := z_posE hi_hr_16
      rw [ep_22]
      have tv_23 := rv_35 hT hr_16
      rw [ep_22] at tv_23
      refine lv_iconst (v := 1) hx hb dX12_isOpen_35 (by decide) ?_
      refine bi_ne (tgt := 43) hx hb rfl ti_1 dX12_isOpen_36 (by decide) (fun c_24 => ?_) (fun c_24 => ?_)
      · skip
        refine lv_iconst (v := 0) hx hb dX12_isOpen_43 (by decide) ?_
        exact zaSz hQ hx hb hr hlk (Or.inl rfl) ⟨(Or.inl rfl), (by (try dsimp only); (try simp only [ti_0]); (first | omega | (intro h9; omega) | (simp; done) | (refine ⟨?_, ?_⟩ <;> intros <;> first | trivial | omega) | (refine ⟨?_, ?_, ?_⟩ <;> intros <;> first | trivial | omega)))⟩ dX12_isOpen_44
      · skip
        refine lv_iconst (v := 1) hx hb dX12_isOpen_39 (by decide) ?_
        refine lv_goto (tgt := 44) hx hb dX12_isOpen_40 (by decide) ?_
        exact zaSz hQ hx hb hr hlk (Or.inr rfl) ⟨(Or.inr rfl), (by (try dsimp only); (try simp only [ti_1]); (first | omega | (intro h9; omega) | (simp; done) | (refine ⟨?_, ?_⟩ <;> intros <;> first | trivial | omega) | (refine ⟨?_, ?_, ?_⟩ <;> intros <;> first | trivial | omega)))⟩ dX12_isOpen_44
