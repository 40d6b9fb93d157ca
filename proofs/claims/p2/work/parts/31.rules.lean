set_option maxHeartbeats 4000000 in
set_option maxRecDepth 100000 in
theorem c_X12_has (l : Launch) (D : va_G) (K : zK) (hM : mK K) (f : Nat → Int32) (A : Nat → Nat → Int32) (hT : mT f A) (a0 : Nat) (ha0 : a0 ∈ zl K) (hk0 : zk K a0 = 11) (x1 : Int32) (x2 : Int32) (hp0 : 0 ≤ x1.toInt ∧ x1.toInt ≤ 46440 ∧ x1.toInt % 1290 = 0) : Met l yX12_has (zc yX12_has cX12_has 4 (some .boolean)) (rmd 1) (va_Pc [.ref a0, .int x1, .int x2] (zB D K (mV K f A))) (vp_Si (fun r => (r = 0 ∨ r = 1))) 0 0 (fun _ => False) := by
  refine zin (by decide) (Nat.le_of_ble_eq_true rfl) ?_
  intro p e s m args below meth c ls Q hQ C hr hlk hP hs hl
  have C : CallFix p m c cX12_has 4 s args zw RX12 := C
  obtain ⟨hx, hb, hml, hown, hts⟩ := id C
  have hO := hM.1
  have hS : va_S (zA K) s.heap s.heap [] := va_S.rf
  have hl : lv_has ls 4 [(0, .ref a0), (1, .int x1), (2, .int x2)] := hl
  refine lv_iconst (v := 0) hx hb dX12_has_0 (by decide) ?_
  refine lv_istore_n (lv' := [(3, .int 0), (0, .ref a0), (1, .int x1), (2, .int x2)]) hx hb dX12_has_1 rfl hl (by decide) rfl (fun ls hl => ?_)
  have L_2_2 : ∀ (n_2 : Nat) (y_1 : Int32) (ls : Array Slot), (2147483648 - y_1.toInt).toNat < n_2 → 0 ≤ y_1.toInt → lv_has ls 4 [(3, .int y_1), (0, .ref a0), (1, .int x1), (2, .int x2)] → W p l e (rmd 1) s m args below meth c s.heap [] 0 0 Q (F0 m 2 ls []) := by
    intro n_2
    induction n_2 with
    | zero => intro y_1 ls hm_2; exact absurd hm_2 (Nat.not_lt_zero _)
    | succ n_2 ih_2 =>
      intro y_1 ls hm_2 iv_3_0 hl
      refine lv_iload_n hx hb dX12_has_2 rfl (lv_at hl 0 rfl) ?_
      refine lv_aload_n hx hb dX12_has_3 rfl (lv_at hl 1 rfl) ?_
      refine mg_14 C hs hP ha0 hk0 wf_X12_117 dX12_has_4 ?_
      have tf_4 : 0 ≤ (f 14).toInt ∧ (f 14).toInt ≤ 60 := hT.1 14
      refine bi_ge (tgt := 33) hx hb rfl rfl dX12_has_7 (by decide) (fun c_5 => ?_) (fun c_5 => ?_)
      · skip
        refine lv_iconst (v := 0) hx hb dX12_has_33 (by decide) ?_
        exact zaSz hQ hx hb hr hlk (Or.inl rfl) (Or.inl rfl) dX12_has_34
      · skip
        refine lv_aload_n hx hb dX12_has_10 rfl (lv_at hl 1 rfl) ?_
        refine lv_iload_n hx hb dX12_has_11 rfl (lv_at hl 2 rfl) ?_
        refine lv_aload_n hx hb dX12_has_12 rfl (lv_at hl 1 rfl) ?_
        refine mg_13 C hs hP ha0 hk0 wf_X12_36 dX12_has_13 ?_
        have hf_6 := hO.r (j := 13) ha0 hk0 (rfl : zX 11 13 = some (53, 60))
        refine lv_iload_n hx hb dX12_has_16 rfl (lv_at hl 0 rfl) ?_
        have g_8 := z_rng y_1
        have hin_7 : vp_in y_1 (zn K (zr K a0 13)) := vp_in_iff.mpr (by rw [(hf_6.2.2 (by decide))]; refine ⟨?_, ?_⟩ <;> omega)
        refine mld_53 C hs hP hf_6.1 hf_6.2.1 hin_7 dX12_has_17 ?_
        have tv_9 : 0 ≤ (A 53 y_1.toNatClampNeg).toInt ∧ (A 53 y_1.toNatClampNeg).toInt ≤ 59 := ra_53 hT (vp_in_iff.mp hin_7).1 (by have h7 := (vp_in_iff.mp hin_7).2; rw [(hf_6.2.2 (by decide))] at h7; exact h7)
        have g_10 := z_rng x1
        have g_11 := z_rng (A 53 y_1.toNatClampNeg)
        have hq_12 : 0 ≤ x1.toInt ∧ x1.toInt ≤ 46440 ∧ x1.toInt % 1290 = 0 := by first | assumption | omega | (intros; omega)
        have hq_13 : 0 ≤ (A 53 y_1.toNatClampNeg).toInt ∧ (A 53 y_1.toNatClampNeg).toInt ≤ 59 := by first | assumption | omega | (intros; omega)
        refine zcS (zrV (As := [.int x1, .int (A 53 y_1.toNatClampNeg)]) (b := a0) (rest := []) C hs hP hS (c_X12_colour l D K hM f A hT a0 ha0 hk0 x1 (A 53 y_1.toNatClampNeg) hq_12 hq_13) m_X12_colour wm_X12_120 (zrecv hs hP ha0 (zF_11 hk0) rfl) ⟨by decide, by decide⟩ hl.1 (Nat.le_of_ble_eq_true rfl) dX12_has_18) (fun x_14 p_14 => ?_)
        refine lv_iload_n hx hb dX12_has_21 rfl (lv_at hl 3 rfl) ?_
        refine bi_ne (tgt := 27) hx hb rfl rfl dX12_has_22 (by decide) (fun c_15 => ?_) (fun c_15 => ?_)
        · skip
          obtain ⟨x_16, ex_16⟩ : ∃ y : Int32, y = y_1 + 1 := ⟨_, rfl⟩
          refine lv_iinc (v := x_16) (lv' := [(3, .int x_16), (0, .ref a0), (1, .int x1), (2, .int x2)]) hx hb dX12_has_27 hl (k := 0) rfl (by rw [ex_16]; rfl) (by decide) rfl (fun ls hl => ?_)
          refine lv_goto (tgt := 2) hx hb dX12_has_30 (by decide) ?_
          obtain ⟨f_16, l_16, u_16⟩ := z_add ex_16 rfl ti_1
          have g_17 := z_rng x_14
          have g_18 := z_rng (f 14)
          have g_19 := z_rng x2
          exact ih_2 x_16 _ (by omega) (by omega) (lv_sub hl [0, 1, 2, 3] rfl)
        · skip
          refine lv_iconst (v := 1) hx hb dX12_has_25 (by decide) ?_
          exact zaSz hQ hx hb hr hlk (Or.inr rfl) (Or.inr rfl) dX12_has_26
  exact L_2_2 _ 0 _ (Nat.lt_succ_self _) (by (try simp only [ti_0]); omega) (lv_sub hl [0, 1, 2, 3] rfl)
set_option maxHeartbeats 4000000 in
set_option maxRecDepth 100000 in
theorem c_X12_hasOther (l : Launch) (D : va_G) (K : zK) (hM : mK K) (f : Nat → Int32) (A : Nat → Nat → Int32) (hT : mT f A) (a0 : Nat) (ha0 : a0 ∈ zl K) (hk0 : zk K a0 = 11) (x1 : Int32) (x2 : Int32) (hp0 : 0 ≤ x1.toInt ∧ x1.toInt ≤ 46440 ∧ x1.toInt % 1290 = 0) : Met l yX12_hasOther (zc yX12_hasOther cX12_hasOther 5 (some .boolean)) (rmd 1) (va_Pc [.ref a0, .int x1, .int x2] (zB D K (mV K f A))) (vp_Si (fun r => (r = 0 ∨ r = 1))) 0 0 (fun _ => False) := by
  refine zin (by decide) (Nat.le_of_ble_eq_true rfl) ?_
  intro p e s m args below meth c ls Q hQ C hr hlk hP hs hl
  have C : CallFix p m c cX12_hasOther 5 s args zw RX12 := C
  obtain ⟨hx, hb, hml, hown, hts⟩ := id C
  have hO := hM.1
  have hS : va_S (zA K) s.heap s.heap [] := va_S.rf
  have hl : lv_has ls 5 [(0, .ref a0), (1, .int x1), (2, .int x2)] := hl
  refine lv_iconst (v := 0) hx hb dX12_hasOther_0 (by decide) ?_
  refine lv_istore_n (lv' := [(3, .int 0), (0, .ref a0), (1, .int x1), (2, .int x2)]) hx hb dX12_hasOther_1 rfl hl (by decide) rfl (fun ls hl => ?_)
  have L_2_2 : ∀ (n_2 : Nat) (y_1 : Int32) (ls : Array Slot), (2147483648 - y_1.toInt).toNat < n_2 → 0 ≤ y_1.toInt → lv_has ls 5 [(3, .int y_1), (0, .ref a0), (1, .int x1), (2, .int x2)] → W p l e (rmd 1) s m args below meth c s.heap [] 0 0 Q (F0 m 2 ls []) := by
    intro n_2
    induction n_2 with
    | zero => intro y_1 ls hm_2; exact absurd hm_2 (Nat.not_lt_zero _)
    | succ n_2 ih_2 =>
      intro y_1 ls hm_2 iv_3_0 hl
      refine lv_iload_n hx hb dX12_hasOther_2 rfl (lv_at hl 0 rfl) ?_
      refine lv_aload_n hx hb dX12_hasOther_3 rfl (lv_at hl 1 rfl) ?_
      refine mg_14 C hs hP ha0 hk0 wf_X12_117 dX12_hasOther_4 ?_
      have tf_4 : 0 ≤ (f 14).toInt ∧ (f 14).toInt ≤ 60 := hT.1 14
      refine bi_ge (tgt := 44) hx hb rfl rfl dX12_hasOther_7 (by decide) (fun c_5 => ?_) (fun c_5 => ?_)
      · skip
        refine lv_iconst (v := 0) hx hb dX12_hasOther_44 (by decide) ?_
        exact zaSz hQ hx hb hr hlk (Or.inl rfl) (Or.inl rfl) dX12_hasOther_45
      · skip
        refine lv_aload_n hx hb dX12_hasOther_10 rfl (lv_at hl 1 rfl) ?_
        refine lv_iload_n hx hb dX12_hasOther_11 rfl (lv_at hl 2 rfl) ?_
        refine lv_aload_n hx hb dX12_hasOther_12 rfl (lv_at hl 1 rfl) ?_
        refine mg_13 C hs hP ha0 hk0 wf_X12_36 dX12_hasOther_13 ?_
        have hf_6 := hO.r (j := 13) ha0 hk0 (rfl : zX 11 13 = some (53, 60))
        refine lv_iload_n hx hb dX12_hasOther_16 rfl (lv_at hl 0 rfl) ?_
        have g_8 := z_rng y_1
        have hin_7 : vp_in y_1 (zn K (zr K a0 13)) := vp_in_iff.mpr (by rw [(hf_6.2.2 (by decide))]; refine ⟨?_, ?_⟩ <;> omega)
        refine mld_53 C hs hP hf_6.1 hf_6.2.1 hin_7 dX12_hasOther_17 ?_
        have tv_9 : 0 ≤ (A 53 y_1.toNatClampNeg).toInt ∧ (A 53 y_1.toNatClampNeg).toInt ≤ 59 := ra_53 hT (vp_in_iff.mp hin_7).1 (by have h7 := (vp_in_iff.mp hin_7).2; rw [(hf_6.2.2 (by decide))] at h7; exact h7)
        have g_10 := z_rng x1
        have g_11 := z_rng (A 53 y_1.toNatClampNeg)
        have hq_12 : 0 ≤ x1.toInt ∧ x1.toInt ≤ 46440 ∧ x1.toInt % 1290 = 0 := by first | assumption | omega | (intros; omega)
        have hq_13 : 0 ≤ (A 53 y_1.toNatClampNeg).toInt ∧ (A 53 y_1.toNatClampNeg).toInt ≤ 59 := by first | assumption | omega | (intros; omega)
        refine zcS (zrV (As := [.int x1, .int (A 53 y_1.toNatClampNeg)]) (b := a0) (rest := []) C hs hP hS (c_X12_colour l D K hM f A hT a0 ha0 hk0 x1 (A 53 y_1.toNatClampNeg) hq_12 hq_13) m_X12_colour wm_X12_120 (zrecv hs hP ha0 (zF_11 hk0) rfl) ⟨by decide, by decide⟩ hl.1 (Nat.le_of_ble_eq_true rfl) dX12_hasOther_18) (fun x_14 p_14 => ?_)
        refine lv_istore (lv' := [(4, .int x_14), (3, .int y_1), (0, .ref a0), (1, .int x1), (2, .int x2)]) hx hb dX12_hasOther_21 hl (by decide) rfl (fun ls hl => ?_)
        refine lv_iload hx hb dX12_hasOther_23 (lv_at hl 0 rfl) ?_
        refine lv_iload_n hx hb dX12_hasOther_25 rfl (lv_at hl 4 rfl) ?_
        refine bi_eq (tgt := 38) hx hb rfl rfl dX12_hasOther_26 (by decide) (fun c_15 => ?_) (fun c_15 => ?_)
        · skip
          obtain ⟨x_16, ex_16⟩ : ∃ y : Int32, y = y_1 + 1 := ⟨_, rfl⟩
          refine lv_iinc (v := x_16) (lv' := [(3, .int x_16), (4, .int x_14), (0, .ref a0), (1, .int x1), (2, .int x2)]) hx hb dX12_hasOther_38 hl (k := 1) rfl (by rw [ex_16]; rfl) (by decide) rfl (fun ls hl => ?_)
          refine lv_goto (tgt := 2) hx hb dX12_hasOther_41 (by decide) ?_
          obtain ⟨f_16, l_16, u_16⟩ := z_add ex_16 rfl ti_1
          have g_17 := z_rng x_14
          have g_18 := z_rng (f 14)
          have g_19 := z_rng x2
          exact ih_2 x_16 _ (by omega) (by omega) (lv_sub hl [0, 2, 3, 4] rfl)
        · skip
          refine lv_iload hx hb dX12_hasOther_29 (lv_at hl 0 rfl) ?_
          refine lv_bipush (v := 6) hx hb dX12_hasOther_31 (by decide) ?_
          refine bi_eq (tgt := 38) hx hb rfl ti_6 dX12_hasOther_33 (by decide) (fun c_20 => ?_) (fun c_20 => ?_)
          · skip
            obtain ⟨x_21, ex_21⟩ : ∃ y : Int32, y = y_1 + 1 := ⟨_, rfl⟩
            refine lv_iinc (v := x_21) (lv' := [(3, .int x_21), (4, .int x_14), (0, .ref a0), (1, .int x1), (2, .int x2)]) hx hb dX12_hasOther_38 hl (k := 1) rfl (by rw [ex_21]; rfl) (by decide) rfl (fun ls hl => ?_)
            refine lv_goto (tgt := 2) hx hb dX12_hasOther_41 (by decide) ?_
            obtain ⟨f_21, l_21, u_21⟩ := z_add ex_21 rfl ti_1
            have g_22 := z_rng x_14
            have g_23 := z_rng x2
            have g_24 := z_rng (f 14)
            exact ih_2 x_21 _ (by omega) (by omega) (lv_sub hl [0, 2, 3, 4] rfl)
          · skip
            refine lv_iconst (v := 1) hx hb dX12_hasOther_36 (by decide) ?_
            exact zaSz hQ hx hb hr hlk (Or.inr rfl) (Or.inr rfl) dX12_hasOther_37
  exact L_2_2 _ 0 _ (Nat.lt_succ_self _) (by (try simp only [ti_0]); omega) (lv_sub hl [0, 1, 2, 3] rfl)
set_option maxHeartbeats 4000000 in
set_option maxRecDepth 100000 in
theorem c_X12_allows (l : Launch) (D : va_G) (K : zK) (hM : mK K) (f : Nat → Int32) (A : Nat → Nat → Int32) (hT : mT f A) (a0 : Nat) (ha0 : a0 ∈ zl K) (hk0 : zk K a0 = 11) (x1 : Int32) (x2 : Int32) (hp0 : 0 ≤ x1.toInt ∧ x1.toInt ≤ 46440 ∧ x1.toInt % 1290 = 0) (hp1 : 0 ≤ x2.toInt ∧ x2.toInt ≤ 59) (hp2 : (f 11).toInt ≤ 1990000000) : Met l yX12_allows (zc yX12_allows cX12_allows 7 (some .int)) (rmd 2) (va_Pc [.ref a0, .int x1, .int x2] (zB D K (mV K f A))) (mQi D K (fun r f' A' => mT f' A' ∧ (∀ k, k ∉ ([50] : List Nat) → A' k = A k) ∧ (∀ k, k ∉ ([11] : List Nat) → f' k = f k) ∧ (f 11).toInt ≤ (f' 11).toInt ∧ (f' 11).toInt ≤ (f 11).toInt + 3 ∧ ((f 12).toInt ≠ 0 → (f' 11).toInt = (f 11).toInt))) 0 0 (zA K) := by
  refine zin (by decide) (Nat.le_of_ble_eq_true rfl) ?_
  intro p e s m args below meth c ls Q hQ C hr hlk hP hs hl
  have C : CallFix p m c cX12_allows 7 s args zw RX12 := C
  obtain ⟨hx, hb, hml, hown, hts⟩ := id C
  have hO := hM.1
  have hS : va_S (zA K) s.heap s.heap [] := va_S.rf
  have FA : ∀ k, k ∉ ([50] : List Nat) → A k = A k := fun _ _ => rfl
  have FF : ∀ k, k ∉ ([11] : List Nat) → f k = f k := fun _ _ => rfl
  have hl : lv_has ls 7 [(0, .ref a0), (1, .int x1), (2, .int x2)] := hl
  refine lv_aload_n hx hb dX12_allows_0 rfl (lv_at hl 0 rfl) ?_
  refine mg_0 C hs hP ha0 hk0 wf_X12_8 dX12_allows_1 ?_
  have hf_1 := hO.r (j := 0) ha0 hk0 (rfl : zX 11 0 = some (40, 47730))
  refine lv_iload_n hx hb dX12_allows_4 rfl (lv_at hl 1 rfl) ?_
  refine lv_iconst (v := 3) hx hb dX12_allows_5 (by decide) ?_
  refine lv_iadd hx hb dX12_allows_6 ?_
  refine lv_topi (fun x_2 ex_2 => ?_)
  have g_4 := z_rng x1
  obtain ⟨f_2, l_2, u_2⟩ := z_add ex_2 rfl ti_3
  have hin_3 : vp_in x_2 (zn K (zr K a0 0)) := vp_in_iff.mpr (by rw [(hf_1.2.2 (by decide))]; refine ⟨?_, ?_⟩ <;> omega)
  refine mld_40 C hs hP hf_1.1 hf_1.2.1 hin_3 dX12_allows_7 ?_
  refine lv_istore_n (lv' := [(3, .int (A 40 x_2.toNatClampNeg)), (0, .ref a0), (1, .int x1), (2, .int x2)]) hx hb dX12_allows_8 rfl hl (by decide) rfl (fun ls hl => ?_)
  refine lv_iload_n hx hb dX12_allows_9 rfl (lv_at hl 0 rfl) ?_
  refine lv_iconst (v := 1) hx hb dX12_allows_10 (by decide) ?_
  have J_24_8 : ∀ (y_7 : Int32) (ls : Array Slot), (y_7 = 0 ∨ y_7 = 1) → lv_has ls 7 [(0, .ref a0), (1, .int x1), (2, .int x2), (3, .int (A 40 x_2.toNatClampNeg))] → W p l e (rmd 2) s m args below meth c s.heap [] 0 0 Q (F0 m 24 ls [.int y_7]) := by
    intro y_7 ls hb_y_7 hl
    refine lv_istore (lv' := [(4, .int y_7), (0, .ref a0), (1, .int x1), (2, .int x2), (3, .int (A 40 x_2.toNatClampNeg))]) hx hb dX12_allows_24 hl (by decide) rfl (fun ls hl => ?_)
    refine lv_aload_n hx hb dX12_allows_26 rfl (lv_at hl 1 rfl) ?_
    refine mg_0 C hs hP ha0 hk0 wf_X12_8 dX12_allows_27 ?_
    refine lv_iload_n hx hb dX12_allows_30 rfl (lv_at hl 2 rfl) ?_
    refine lv_iconst (v := 2) hx hb dX12_allows_31 (by decide) ?_
    refine lv_iadd hx hb dX12_allows_32 ?_
    refine lv_topi (fun x_10 ex_10 => ?_)
    obtain ⟨f_10, l_10, u_10⟩ := z_add ex_10 rfl ti_2
    have hin_11 : vp_in x_10 (zn K (zr K a0 0)) := vp_in_iff.mpr (by rw [(hf_1.2.2 (by decide))]; refine ⟨?_, ?_⟩ <;> omega)
    refine mld_40 C hs hP hf_1.1 hf_1.2.1 hin_11 dX12_allows_33 ?_
    refine lv_iconst (v := 4) hx hb dX12_allows_34 (by decide) ?_
    have J_44_15 : ∀ (f_16 : Nat → Int32) (A_16 : Nat → Nat → Int32) (H : Heap) (locs : List Loc) (ls : Array Slot), ((f 11).toInt ≤ (f_16 11).toInt ∧ (f_16 11).toInt ≤ (f 11).toInt + 1 ∧ ((f 12).toInt ≠ 0 → (f_16 11).toInt = (f 11).toInt)) → (∀ k, k ∉ ([50] : List Nat) → A_16 k = A k) → (∀ k, k ∉ ([11] : List Nat) → f_16 k = f k) → mT f_16 A_16 → va_P D vwCl (zW K (mV K f_16 A_16)) H → va_S (zA K) s.heap H locs → lv_has ls 7 [(0, .ref a0), (1, .int x1), (2, .int x2), (3, .int (A 40 x_2.toNatClampNeg)), (4, .int y_7)] → W p l e (rmd 2) s m args below meth c H locs 0 0 Q (F0 m 44 ls []) := by
      intro f_16 A_16 H locs ls iv_16_0 FA_16 FF_16 hT hP hS hl
      have FA := FA_16
      have FF := FF_16
      refine lv_iload hx hb dX12_allows_44 (lv_at hl 4 rfl) ?_
      have J_70_36 : ∀ (f_37 : Nat → Int32) (A_37 : Nat → Nat → Int32) (H : Heap) (locs : List Loc) (ls : Array Slot), ((f 11).toInt ≤ (f_37 11).toInt ∧ (f_37 11).toInt ≤ (f 11).toInt + 2 ∧ ((f 12).toInt ≠ 0 → (f_37 11).toInt = (f 11).toInt)) → (∀ k, k ∉ ([50] : List Nat) → A_37 k = A k) → (∀ k, k ∉ ([11] : List Nat) → f_37 k = f k) → mT f_37 A_37 → va_P D vwCl (zW K (mV K f_37 A_37)) H → va_S (zA K) s.heap H locs → lv_has ls 7 [(0, .ref a0), (1, .int x1), (2, .int x2), (3, .int (A 40 x_2.toNatClampNeg)), (4, .int y_7)] → W p l e (rmd 2) s m args below meth c H locs 0 0 Q (F0 m 70 ls []) := by
        intro f_37 A_37 H locs ls iv_37_0 FA_37 FF_37 hT hP hS hl
        have FA := FA_37
        have FF := FF_37
        refine lv_aload_n hx hb dX12_allows_70 rfl (lv_at hl 0 rfl) ?_
        refine lv_bipush (v := 21) hx hb dX12_allows_71 (by decide) ?_
        have hq_39 : (f_37 11).toInt ≤ 2000000000 := by (try simp only [ti_21]); first | assumption | omega | (intros; omega)
        refine mcV (zrV (As := [.int 21]) (b := a0) (rest := []) C hs hP hS (c_X12_body l D K hM f_37 A_37 hT a0 ha0 hk0 21 hq_39) m_X12_body wm_X12_124 (zrecv hs hP ha0 (zF_11 hk0) rfl) ⟨by decide, by decide⟩ hl.1 (Nat.le_of_ble_eq_true rfl) dX12_allows_73) hS (fun f_40 A_40 H locs p_40 hP hS => ?_)
        obtain ⟨hT, hA_40, hF_40, pp_40⟩ := p_40
        have pp_40 : (f_37 11).toInt ≤ (f_40 11).toInt ∧ (f_40 11).toInt ≤ (f_37 11).toInt + 1 ∧ ((f_37 12).toInt ≠ 0 → (f_40 11).toInt = (f_37 11).toInt) := pp_40
        have ev_41 : f_37 12 = f 12 := by rw [FF_37 12 (by decide)]
        rw [ev_41] at pp_40
        try simp only [ti_21] at pp_40
        have FA := frA FA hA_40 (by decide)
        have FF := frF FF hF_40 (by decide)
        refine lv_aload_n hx hb dX12_allows_76 rfl (lv_at hl 0 rfl) ?_
        refine lv_iload_n hx hb dX12_allows_77 rfl (lv_at hl 1 rfl) ?_
        refine lv_iload_n hx hb dX12_allows_78 rfl (lv_at hl 2 rfl) ?_
        have g_42 := z_rng x2
        have hq_43 : 0 ≤ x1.toInt ∧ x1.toInt ≤ 46440 ∧ x1.toInt % 1290 = 0 := by first | assumption | omega | (intros; omega)
        have hq_44 : 0 ≤ x2.toInt ∧ x2.toInt ≤ 59 := by first | assumption | omega | (intros; omega)
        refine zcS (zrV (As := [.int x1, .int x2]) (b := a0) (rest := []) C hs hP hS (c_X12_colour l D K hM f_40 A_40 hT a0 ha0 hk0 x1 x2 hq_43 hq_44) m_X12_colour wm_X12_120 (zrecv hs hP ha0 (zF_11 hk0) rfl) ⟨by decide, by decide⟩ hl.1 (Nat.le_of_ble_eq_true rfl) dX12_allows_79) (fun x_45 p_45 => ?_)
        refine lv_istore (lv' := [(5, .int x_45), (0, .ref a0), (1, .int x1), (2, .int x2), (3, .int (A 40 x_2.toNatClampNeg)), (4, .int y_7)]) hx hb dX12_allows_82 hl (by decide) rfl (fun ls hl => ?_)
        refine lv_aload_n hx hb dX12_allows_84 rfl (lv_at hl 1 rfl) ?_
        refine mg_16 C hs hP ha0 hk0 wf_X12_127 dX12_allows_85 ?_
        have ev_46 : f_40 16 = f 16 := by rw [hF_40 16 (by decide), FF_37 16 (by decide)]
        rw [ev_46]
        have tf_47 : 0 ≤ (f 16).toInt ∧ (f 16).toInt ≤ 4 := by rw [← ev_46]; exact hT.1 16
        have J_106_58 : ∀ (y_57 : Int32) (ls : Array Slot), lv_has ls 7 [(0, .ref a0), (1, .int x1), (2, .int x2), (3, .int (A 40 x_2.toNatClampNeg)), (4, .int y_7), (5, .int x_45)] → W p l e (rmd 2) s m args below meth c H locs 0 0 Q (F0 m 106 ls [.int y_57]) := by
          intro y_57 ls hl
          refine lv_istore (lv' := [(6, .int y_57), (0, .ref a0), (1, .int x1), (2, .int x2), (3, .int (A 40 x_2.toNatClampNeg)), (4, .int y_7), (5, .int x_45)]) hx hb dX12_allows_106 hl (by decide) rfl (fun ls hl => ?_)
          refine lv_iload hx hb dX12_allows_108 (lv_at hl 6 rfl) ?_
          refine lv_iconst (v := 5) hx hb dX12_allows_110 (by decide) ?_
          refine bi_eq (tgt := 120) hx hb rfl ti_5 dX12_allows_111 (by decide) (fun c_60 => ?_) (fun c_60 => ?_)
          · skip
            refine lv_iconst (v := 0) hx hb dX12_allows_120 (by decide) ?_
            exact maI hQ hx hb hr hlk hP hS ⟨hT, FA, FF, (by (try simp only [ti_0]); first | omega | (intro h9; omega) | (simp; done) | (refine ⟨?_, ?_⟩ <;> intros <;> omega) | (refine ⟨?_, ?_, ?_⟩ <;> intros <;> omega))⟩ dX12_allows_121
          · skip
            refine lv_iload hx hb dX12_allows_114 (lv_at hl 0 rfl) ?_
            refine lv_iconst (v := 5) hx hb dX12_allows_116 (by decide) ?_
            refine bi_ne (tgt := 122) hx hb rfl ti_5 dX12_allows_117 (by decide) (fun c_61 => ?_) (fun c_61 => ?_)
            · skip
              refine lv_iload hx hb dX12_allows_122 (lv_at hl 0 rfl) ?_
              refine lv_iconst (v := (-1)) hx hb dX12_allows_124 (by decide) ?_
              refine bi_ne (tgt := 154) hx hb rfl ti_m1 dX12_allows_125 (by decide) (fun c_62 => ?_) (fun c_62 => ?_)
              · skip
                refine lv_iload hx hb dX12_allows_154 (lv_at hl 6 rfl) ?_
                refine lv_iload hx hb dX12_allows_156 (lv_at hl 0 rfl) ?_
                refine bi_eq (tgt := 173) hx hb rfl rfl dX12_allows_158 (by decide) (fun c_63 => ?_) (fun c_63 => ?_)
                · skip
                  refine lv_iload hx hb dX12_allows_173 (lv_at hl 5 rfl) ?_
                  refine bz_eq (tgt := 204) hx hb rfl dX12_allows_175 (by decide) (fun c_64 => ?_) (fun c_64 => ?_)
                  · skip
                    refine lv_iconst (v := 0) hx hb dX12_allows_204 (by decide) ?_
                    exact maI hQ hx hb hr hlk hP hS ⟨hT, FA, FF, (by (try simp only [ti_0]); first | omega | (intro h9; omega) | (simp; done) | (refine ⟨?_, ?_⟩ <;> intros <;> omega) | (refine ⟨?_, ?_, ?_⟩ <;> intros <;> omega))⟩ dX12_allows_205
                  · skip
                    refine lv_iload hx hb dX12_allows_178 (lv_at hl 6 rfl) ?_
                    refine lv_iload hx hb dX12_allows_180 (lv_at hl 0 rfl) ?_
                    refine bi_eq (tgt := 204) hx hb rfl rfl dX12_allows_182 (by decide) (fun c_65 => ?_) (fun c_65 => ?_)
                    · skip
                      refine lv_iconst (v := 0) hx hb dX12_allows_204 (by decide) ?_
                      exact maI hQ hx hb hr hlk hP hS ⟨hT, FA, FF, (by (try simp only [ti_0]); first | omega | (intro h9; omega) | (simp; done) | (refine ⟨?_, ?_⟩ <;> intros <;> omega) | (refine ⟨?_, ?_, ?_⟩ <;> intros <;> omega))⟩ dX12_allows_205
                    · skip
                      refine lv_iload hx hb dX12_allows_185 (lv_at hl 6 rfl) ?_
                      refine lv_iconst (v := 4) hx hb dX12_allows_187 (by decide) ?_
                      refine bi_eq (tgt := 204) hx hb rfl ti_4 dX12_allows_188 (by decide) (fun c_66 => ?_) (fun c_66 => ?_)
                      · skip
                        refine lv_iconst (v := 0) hx hb dX12_allows_204 (by decide) ?_
                        exact maI hQ hx hb hr hlk hP hS ⟨hT, FA, FF, (by (try simp only [ti_0]); first | omega | (intro h9; omega) | (simp; done) | (refine ⟨?_, ?_⟩ <;> intros <;> omega) | (refine ⟨?_, ?_, ?_⟩ <;> intros <;> omega))⟩ dX12_allows_205
                      · skip
                        refine lv_aload_n hx hb dX12_allows_191 rfl (lv_at hl 1 rfl) ?_
                        refine lv_iload_n hx hb dX12_allows_192 rfl (lv_at hl 2 rfl) ?_
                        refine lv_iconst (v := 4) hx hb dX12_allows_193 (by decide) ?_
                        have hq_67 : 0 ≤ x1.toInt ∧ x1.toInt ≤ 46440 ∧ x1.toInt % 1290 = 0 := by (try simp only [ti_4]); first | assumption | omega | (intros; omega)
                        refine zcS (zrV (As := [.int x1, .int 4]) (b := a0) (rest := []) C hs hP hS (c_X12_has l D K hM f_40 A_40 hT a0 ha0 hk0 x1 4 hq_67) m_X12_has wm_X12_133 (zrecv hs hP ha0 (zF_11 hk0) rfl) ⟨by decide, by decide⟩ hl.1 (Nat.le_of_ble_eq_true rfl) dX12_allows_194) (fun x_68 p_68 => ?_)
                        refine bz_eq (tgt := 204) hx hb rfl dX12_allows_197 (by decide) (fun c_69 => ?_) (fun c_69 => ?_)
                        · skip
                          refine lv_iconst (v := 0) hx hb dX12_allows_204 (by decide) ?_
                          exact maI hQ hx hb hr hlk hP hS ⟨hT, FA, FF, (by (try simp only [ti_0]); first | omega | (intro h9; omega) | (simp; done) | (refine ⟨?_, ?_⟩ <;> intros <;> omega) | (refine ⟨?_, ?_, ?_⟩ <;> intros <;> omega))⟩ dX12_allows_205
                        · skip
                          refine lv_iconst (v := 2) hx hb dX12_allows_200 (by decide) ?_
                          refine lv_goto (tgt := 205) hx hb dX12_allows_201 (by decide) ?_
                          exact maI hQ hx hb hr hlk hP hS ⟨hT, FA, FF, (by (try simp only [ti_2]); first | omega | (intro h9; omega) | (simp; done) | (refine ⟨?_, ?_⟩ <;> intros <;> omega) | (refine ⟨?_, ?_, ?_⟩ <;> intros <;> omega))⟩ dX12_allows_205
                · skip
                  refine lv_aload_n hx hb dX12_allows_161 rfl (lv_at hl 1 rfl) ?_
                  refine lv_iload_n hx hb dX12_allows_162 rfl (lv_at hl 2 rfl) ?_
                  refine lv_iload hx hb dX12_allows_163 (lv_at hl 0 rfl) ?_
                  have g_70 := z_rng y_57
                  have hq_71 : 0 ≤ x1.toInt ∧ x1.toInt ≤ 46440 ∧ x1.toInt % 1290 = 0 := by first | assumption | omega | (intros; omega)
                  refine zcS (zrV (As := [.int x1, .int y_57]) (b := a0) (rest := []) C hs hP hS (c_X12_has l D K hM f_40 A_40 hT a0 ha0 hk0 x1 y_57 hq_71) m_X12_has wm_X12_133 (zrecv hs hP ha0 (zF_11 hk0) rfl) ⟨by decide, by decide⟩ hl.1 (Nat.le_of_ble_eq_true rfl) dX12_allows_165) (fun x_72 p_72 => ?_)
                  refine bz_eq (tgt := 173) hx hb rfl dX12_allows_168 (by decide) (fun c_73 => ?_) (fun c_73 => ?_)
                  · skip
                    refine lv_iload hx hb dX12_allows_173 (lv_at hl 5 rfl) ?_
                    refine bz_eq (tgt := 204) hx hb rfl dX12_allows_175 (by decide) (fun c_74 => ?_) (fun c_74 => ?_)
                    · skip
                      refine lv_iconst (v := 0) hx hb dX12_allows_204 (by decide) ?_
                      exact maI hQ hx hb hr hlk hP hS ⟨hT, FA, FF, (by (try simp only [ti_0]); first | omega | (intro h9; omega) | (simp; done) | (refine ⟨?_, ?_⟩ <;> intros <;> omega) | (refine ⟨?_, ?_, ?_⟩ <;> intros <;> omega))⟩ dX12_allows_205
                    · skip
                      refine lv_iload hx hb dX12_allows_178 (lv_at hl 6 rfl) ?_
                      refine lv_iload hx hb dX12_allows_180 (lv_at hl 0 rfl) ?_
                      refine bi_eq (tgt := 204) hx hb rfl rfl dX12_allows_182 (by decide) (fun c_75 => ?_) (fun c_75 => ?_)
                      · skip
                        refine lv_iconst (v := 0) hx hb dX12_allows_204 (by decide) ?_
                        exact maI hQ hx hb hr hlk hP hS ⟨hT, FA, FF, (by (try simp only [ti_0]); first | omega | (intro h9; omega) | (simp; done) | (refine ⟨?_, ?_⟩ <;> intros <;> omega) | (refine ⟨?_, ?_, ?_⟩ <;> intros <;> omega))⟩ dX12_allows_205
                      · skip
                        refine lv_iload hx hb dX12_allows_185 (lv_at hl 6 rfl) ?_
                        refine lv_iconst (v := 4) hx hb dX12_allows_187 (by decide) ?_
                        refine bi_eq (tgt := 204) hx hb rfl ti_4 dX12_allows_188 (by decide) (fun c_76 => ?_) (fun c_76 => ?_)
                        · skip
                          refine lv_iconst (v := 0) hx hb dX12_allows_204 (by decide) ?_
                          exact maI hQ hx hb hr hlk hP hS ⟨hT, FA, FF, (by (try simp only [ti_0]); first | omega | (intro h9; omega) | (simp; done) | (refine ⟨?_, ?_⟩ <;> intros <;> omega) | (refine ⟨?_, ?_, ?_⟩ <;> intros <;> omega))⟩ dX12_allows_205
                        · skip
                          refine lv_aload_n hx hb dX12_allows_191 rfl (lv_at hl 1 rfl) ?_
                          refine lv_iload_n hx hb dX12_allows_192 rfl (lv_at hl 2 rfl) ?_
                          refine lv_iconst (v := 4) hx hb dX12_allows_193 (by decide) ?_
                          have hq_77 : 0 ≤ x1.toInt ∧ x1.toInt ≤ 46440 ∧ x1.toInt % 1290 = 0 := by (try simp only [ti_4]); first | assumption | omega | (intros; omega)
                          refine zcS (zrV (As := [.int x1, .int 4]) (b := a0) (rest := []) C hs hP hS (c_X12_has l D K hM f_40 A_40 hT a0 ha0 hk0 x1 4 hq_77) m_X12_has wm_X12_133 (zrecv hs hP ha0 (zF_11 hk0) rfl) ⟨by decide, by decide⟩ hl.1 (Nat.le_of_ble_eq_true rfl) dX12_allows_194) (fun x_78 p_78 => ?_)
                          refine bz_eq (tgt := 204) hx hb rfl dX12_allows_197 (by decide) (fun c_79 => ?_) (fun c_79 => ?_)
                          · skip
                            refine lv_iconst (v := 0) hx hb dX12_allows_204 (by decide) ?_
                            exact maI hQ hx hb hr hlk hP hS ⟨hT, FA, FF, (by (try simp only [ti_0]); first | omega | (intro h9; omega) | (simp; done) | (refine ⟨?_, ?_⟩ <;> intros <;> omega) | (refine ⟨?_, ?_, ?_⟩ <;> intros <;> omega))⟩ dX12_allows_205
                          · skip
                            refine lv_iconst (v := 2) hx hb dX12_allows_200 (by decide) ?_
                            refine lv_goto (tgt := 205) hx hb dX12_allows_201 (by decide) ?_
                            exact maI hQ hx hb hr hlk hP hS ⟨hT, FA, FF, (by (try simp only [ti_2]); first | omega | (intro h9; omega) | (simp; done) | (refine ⟨?_, ?_⟩ <;> intros <;> omega) | (refine ⟨?_, ?_, ?_⟩ <;> intros <;> omega))⟩ dX12_allows_205
                  · skip
                    refine lv_iconst (v := 1) hx hb dX12_allows_171 (by decide) ?_
                    exact maI hQ hx hb hr hlk hP hS ⟨hT, FA, FF, (by (try simp only [ti_1]); first | omega | (intro h9; omega) | (simp; done) | (refine ⟨?_, ?_⟩ <;> intros <;> omega) | (refine ⟨?_, ?_, ?_⟩ <;> intros <;> omega))⟩ dX12_allows_172
              · skip
                refine lv_iload_n hx hb dX12_allows_128 rfl (lv_at hl 4 rfl) ?_
                refine lv_iconst (v := 2) hx hb dX12_allows_129 (by decide) ?_
                refine bi_ne (tgt := 152) hx hb rfl ti_2 dX12_allows_130 (by decide) (fun c_80 => ?_) (fun c_80 => ?_)
                · skip
                  refine lv_iconst (v := 0) hx hb dX12_allows_152 (by decide) ?_
                  exact maI hQ hx hb hr hlk hP hS ⟨hT, FA, FF, (by (try simp only [ti_0]); first | omega | (intro h9; omega) | (simp; done) | (refine ⟨?_, ?_⟩ <;> intros <;> omega) | (refine ⟨?_, ?_, ?_⟩ <;> intros <;> omega))⟩ dX12_allows_153
                · skip
                  refine lv_iload hx hb dX12_allows_133 (lv_at hl 6 rfl) ?_
                  refine lv_iconst (v := 3) hx hb dX12_allows_135 (by decide) ?_
                  refine bi_ne (tgt := 152) hx hb rfl ti_3 dX12_allows_136 (by decide) (fun c_81 => ?_) (fun c_81 => ?_)
                  · skip
                    refine lv_iconst (v := 0) hx hb dX12_allows_152 (by decide) ?_
                    exact maI hQ hx hb hr hlk hP hS ⟨hT, FA, FF, (by (try simp only [ti_0]); first | omega | (intro h9; omega) | (simp; done) | (refine ⟨?_, ?_⟩ <;> intros <;> omega) | (refine ⟨?_, ?_, ?_⟩ <;> intros <;> omega))⟩ dX12_allows_153
                  · skip
                    refine lv_aload_n hx hb dX12_allows_139 rfl (lv_at hl 1 rfl) ?_
                    refine lv_iload_n hx hb dX12_allows_140 rfl (lv_at hl 2 rfl) ?_
                    refine lv_iconst (v := 3) hx hb dX12_allows_141 (by decide) ?_
                    have hq_82 : 0 ≤ x1.toInt ∧ x1.toInt ≤ 46440 ∧ x1.toInt % 1290 = 0 := by (try simp only [ti_3]); first | assumption | omega | (intros; omega)
                    refine zcS (zrV (As := [.int x1, .int 3]) (b := a0) (rest := []) C hs hP hS (c_X12_hasOther l D K hM f_40 A_40 hT a0 ha0 hk0 x1 3 hq_82) m_X12_hasOther wm_X12_130 (zrecv hs hP ha0 (zF_11 hk0) rfl) ⟨by decide, by decide⟩ hl.1 (Nat.le_of_ble_eq_true rfl) dX12_allows_142) (fun x_83 p_83 => ?_)
                    refine bz_eq (tgt := 152) hx hb rfl dX12_allows_145 (by decide) (fun c_84 => ?_) (fun c_84 => ?_)
                    · skip
                      refine lv_iconst (v := 0) hx hb dX12_allows_152 (by decide) ?_
                      exact maI hQ hx hb hr hlk hP hS ⟨hT, FA, FF, (by (try simp only [ti_0]); first | omega | (intro h9; omega) | (simp; done) | (refine ⟨?_, ?_⟩ <;> intros <;> omega) | (refine ⟨?_, ?_, ?_⟩ <;> intros <;> omega))⟩ dX12_allows_153
                    · skip
                      refine lv_iconst (v := 3) hx hb dX12_allows_148 (by decide) ?_
                      refine lv_goto (tgt := 153) hx hb dX12_allows_149 (by decide) ?_
                      exact maI hQ hx hb hr hlk hP hS ⟨hT, FA, FF, (by (try simp only [ti_3]); first | omega | (intro h9; omega) | (simp; done) | (refine ⟨?_, ?_⟩ <;> intros <;> omega) | (refine ⟨?_, ?_, ?_⟩ <;> intros <;> omega))⟩ dX12_allows_153
            · skip
              refine lv_iconst (v := 0) hx hb dX12_allows_120 (by decide) ?_
              exact maI hQ hx hb hr hlk hP hS ⟨hT, FA, FF, (by (try simp only [ti_0]); first | omega | (intro h9; omega) | (simp; done) | (refine ⟨?_, ?_⟩ <;> intros <;> omega) | (refine ⟨?_, ?_, ?_⟩ <;> intros <;> omega))⟩ dX12_allows_121
        refine bz_ne (tgt := 95) hx hb rfl dX12_allows_88 (by decide) (fun c_48 => ?_) (fun c_48 => ?_)
        · skip
          refine lv_aload_n hx hb dX12_allows_95 rfl (lv_at hl 1 rfl) ?_
          refine lv_iload_n hx hb dX12_allows_96 rfl (lv_at hl 2 rfl) ?_
          refine lv_aload_n hx hb dX12_allows_97 rfl (lv_at hl 1 rfl) ?_
          refine mg_15 C hs hP ha0 hk0 wf_X12_39 dX12_allows_98 ?_
          have hf_85 := hO.r (j := 15) ha0 hk0 (rfl : zX 11 15 = some (55, 4))
          refine lv_iconst (v := 0) hx hb dX12_allows_101 (by decide) ?_
          have hin_86 : vp_in 0 (zn K (zr K a0 15)) := vp_in_iff.mpr (by rw [ti_0, (hf_85.2.2 (by decide))]; decide)
          refine mld_55 C hs hP hf_85.1 hf_85.2.1 hin_86 dX12_allows_102 ?_
          have ev_87 : A_40 55 (0 : Int32).toNatClampNeg = A 55 (0 : Int32).toNatClampNeg := by rw [hA_40 55 (by decide), FA_37 55 (by decide)]
          have tv_88 : 0 ≤ (A 55 (0 : Int32).toNatClampNeg).toInt ∧ (A 55 (0 : Int32).toNatClampNeg).toInt ≤ 59 := by rw [← ev_87]; exact ra_55 hT (by rw [ti_0]; decide) (by rw [ti_0]; decide)
          rw [ev_87]
          have g_89 := z_rng (A 55 (0 : Int32).toNatClampNeg)
          have hq_90 : 0 ≤ x1.toInt ∧ x1.toInt ≤ 46440 ∧ x1.toInt % 1290 = 0 := by first | assumption | omega | (intros; omega)
          have hq_91 : 0 ≤ (A 55 (0 : Int32).toNatClampNeg).toInt ∧ (A 55 (0 : Int32).toNatClampNeg).toInt ≤ 59 := by first | assumption | omega | (intros; omega)
          refine zcS (zrV (As := [.int x1, .int (A 55 (0 : Int32).toNatClampNeg)]) (b := a0) (rest := []) C hs hP hS (c_X12_colour l D K hM f_40 A_40 hT a0 ha0 hk0 x1 (A 55 (0 : Int32).toNatClampNeg) hq_90 hq_91) m_X12_colour wm_X12_120 (zrecv hs hP ha0 (zF_11 hk0) rfl) ⟨by decide, by decide⟩ hl.1 (Nat.le_of_ble_eq_true rfl) dX12_allows_103) (fun x_92 p_92 => ?_)
          exact J_106_58 x_92 _ (lv_sub hl [1, 2, 3, 4, 5, 0] rfl)
        · skip
          refine lv_iconst (v := (-1)) hx hb dX12_allows_91 (by decide) ?_
          refine lv_goto (tgt := 106) hx hb dX12_allows_92 (by decide) ?_
          exact J_106_58 (-1) _ (lv_sub hl [1, 2, 3, 4, 5, 0] rfl)
      refine bz_ne (tgt := 54) hx hb rfl dX12_allows_46 (by decide) (fun c_18 => ?_) (fun c_18 => ?_)
      · skip
        refine lv_aload_n hx hb dX12_allows_54 rfl (lv_at hl 0 rfl) ?_
        refine lv_iload hx hb dX12_allows_55 (lv_at hl 4 rfl) ?_
        have J_67_95 : ∀ (y_94 : Int32) (ls : Array Slot), lv_has ls 7 [(0, .ref a0), (1, .int x1), (2, .int x2), (3, .int (A 40 x_2.toNatClampNeg)), (4, .int y_7)] → W p l e (rmd 2) s m args below meth c H locs 0 0 Q (F0 m 67 ls [.int y_94, .ref a0]) := by
          intro y_94 ls hl
          have g_97 := z_rng y_94
          have hq_98 : (f_16 11).toInt ≤ 2000000000 := by first | assumption | omega | (intros; omega)
          refine mcV (zrV (As := [.int y_94]) (b := a0) (rest := []) C hs hP hS (c_X12_body l D K hM f_16 A_16 hT a0 ha0 hk0 y_94 hq_98) m_X12_body wm_X12_124 (zrecv hs hP ha0 (zF_11 hk0) rfl) ⟨by decide, by decide⟩ hl.1 (Nat.le_of_ble_eq_true rfl) dX12_allows_67) hS (fun f_99 A_99 H locs p_99 hP hS => ?_)
          obtain ⟨hT, hA_99, hF_99, pp_99⟩ := p_99
          have pp_99 : (f_16 11).toInt ≤ (f_99 11).toInt ∧ (f_99 11).toInt ≤ (f_16 11).toInt + 1 ∧ ((f_16 12).toInt ≠ 0 → (f_99 11).toInt = (f_16 11).toInt) := pp_99
          have ev_100 : f_16 12 = f 12 := by rw [FF_16 12 (by decide)]
          rw [ev_100] at pp_99
          have FA := frA FA hA_99 (by decide)
          have FF := frF FF hF_99 (by decide)
          exact J_70_36 f_99 A_99 _ _ _ (by omega) FA FF hT hP hS (lv_sub hl [0, 1, 2, 3, 4] rfl)
        refine bz_eq (tgt := 65) hx hb rfl dX12_allows_57 (by decide) (fun c_93 => ?_) (fun c_93 => ?_)
        · skip
          refine lv_bipush (v := 23) hx hb dX12_allows_65 (by decide) ?_
          exact J_67_95 23 _ (lv_sub hl [0, 1, 2, 3, 4] rfl)
        · skip
          refine lv_bipush (v := 22) hx hb dX12_allows_60 (by decide) ?_
          refine lv_goto (tgt := 67) hx hb dX12_allows_62 (by decide) ?_
          exact J_67_95 22 _ (lv_sub hl [0, 1, 2, 3, 4] rfl)
      · skip
        refine lv_iload_n hx hb dX12_allows_49 rfl (lv_at hl 3 rfl) ?_
        refine lv_iconst (v := 2) hx hb dX12_allows_50 (by decide) ?_
        refine bi_ne (tgt := 70) hx hb rfl ti_2 dX12_allows_51 (by decide) (fun c_101 => ?_) (fun c_101 => ?_)
        · skip
          exact J_70_36 f_16 A_16 _ _ _ (by omega) FA FF hT hP hS (lv_sub hl [0, 1, 2, 3, 4] rfl)
        · skip
          refine lv_aload_n hx hb dX12_allows_54 rfl (lv_at hl 0 rfl) ?_
          refine lv_iload hx hb dX12_allows_55 (lv_at hl 4 rfl) ?_
          have J_67_104 : ∀ (y_103 : Int32) (ls : Array Slot), lv_has ls 7 [(0, .ref a0), (1, .int x1), (2, .int x2), (3, .int (A 40 x_2.toNatClampNeg)), (4, .int y_7)] → W p l e (rmd 2) s m args below meth c H locs 0 0 Q (F0 m 67 ls [.int y_103, .ref a0]) := by
            intro y_103 ls hl
            have g_106 := z_rng y_103
            have hq_107 : (f_16 11).toInt ≤ 2000000000 := by first | assumption | omega | (intros; omega)
            refine mcV (zrV (As := [.int y_103]) (b := a0) (rest := []) C hs hP hS (c_X12_body l D K hM f_16 A_16 hT a0 ha0 hk0 y_103 hq_107) m_X12_body wm_X12_124 (zrecv hs hP ha0 (zF_11 hk0) rfl) ⟨by decide, by decide⟩ hl.1 (Nat.le_of_ble_eq_true rfl) dX12_allows_67) hS (fun f_108 A_108 H locs p_108 hP hS => ?_)
            obtain ⟨hT, hA_108, hF_108, pp_108⟩ := p_108
            have pp_108 : (f_16 11).toInt ≤ (f_108 11).toInt ∧ (f_108 11).toInt ≤ (f_16 11).toInt + 1 ∧ ((f_16 12).toInt ≠ 0 → (f_108 11).toInt = (f_16 11).toInt) := pp_108
            have ev_109 : f_16 12 = f 12 := by rw [FF_16 12 (by decide)]
            rw [ev_109] at pp_108
            have FA := frA FA hA_108 (by decide)
            have FF := frF FF hF_108 (by decide)
            exact J_70_36 f_108 A_108 _ _ _ (by omega) FA FF hT hP hS (lv_sub hl [0, 1, 2, 3, 4] rfl)
          refine bz_eq (tgt := 65) hx hb rfl dX12_allows_57 (by decide) (fun c_102 => ?_) (fun c_102 => ?_)
          · skip
            refine lv_bipush (v := 23) hx hb dX12_allows_65 (by decide) ?_
            exact J_67_104 23 _ (lv_sub hl [0, 1, 2, 3, 4] rfl)
          · skip
            refine lv_bipush (v := 22) hx hb dX12_allows_60 (by decide) ?_
            refine lv_goto (tgt := 67) hx hb dX12_allows_62 (by decide) ?_
            exact J_67_104 22 _ (lv_sub hl [0, 1, 2, 3, 4] rfl)
    refine bi_ne (tgt := 44) hx hb rfl ti_4 dX12_allows_35 (by decide) (fun c_12 => ?_) (fun c_12 => ?_)
    · skip
      exact J_44_15 f A _ _ _ (by omega) FA FF hT hP hS (lv_sub hl [1, 2, 3, 4, 0] rfl)
    · skip
      refine lv_aload_n hx hb dX12_allows_38 rfl (lv_at hl 1 rfl) ?_
      refine lv_bipush (v := 24) hx hb dX12_allows_39 (by decide) ?_
      have hq_110 : (f 11).toInt ≤ 2000000000 := by (try simp only [ti_24]); first | assumption | omega | (intros; omega)
      refine mcV (zrV (As := [.int 24]) (b := a0) (rest := []) C hs hP hS (c_X12_body l D K hM f A hT a0 ha0 hk0 24 hq_110) m_X12_body wm_X12_124 (zrecv hs hP ha0 (zF_11 hk0) rfl) ⟨by decide, by decide⟩ hl.1 (Nat.le_of_ble_eq_true rfl) dX12_allows_41) hS (fun f_111 A_111 H locs p_111 hP hS => ?_)
      obtain ⟨hT, hA_111, hF_111, pp_111⟩ := p_111
      have pp_111 : (f 11).toInt ≤ (f_111 11).toInt ∧ (f_111 11).toInt ≤ (f 11).toInt + 1 ∧ ((f 12).toInt ≠ 0 → (f_111 11).toInt = (f 11).toInt) := pp_111
      try simp only [ti_24] at pp_111
      have FA := frA FA hA_111 (by decide)
      have FF := frF FF hF_111 (by decide)
      exact J_44_15 f_111 A_111 _ _ _ (by omega) FA FF hT hP hS (lv_sub hl [1, 2, 3, 4, 0] rfl)
  refine bi_eq (tgt := 19) hx hb rfl ti_1 dX12_allows_11 (by decide) (fun c_5 => ?_) (fun c_5 => ?_)
  · skip
    refine lv_iconst (v := 1) hx hb dX12_allows_19 (by decide) ?_
    refine lv_goto (tgt := 24) hx hb dX12_allows_20 (by decide) ?_
    exact J_24_8 1 _ (Or.inr rfl) (lv_sub hl [1, 2, 3, 0] rfl)
  · skip
    refine lv_iload_n hx hb dX12_allows_14 rfl (lv_at hl 0 rfl) ?_
    refine lv_iconst (v := 3) hx hb dX12_allows_15 (by decide) ?_
    refine bi_ne (tgt := 23) hx hb rfl ti_3 dX12_allows_16 (by decide) (fun c_112 => ?_) (fun c_112 => ?_)
    · skip
      refine lv_iconst (v := 0) hx hb dX12_allows_23 (by decide) ?_
      exact J_24_8 0 _ (Or.inl rfl) (lv_sub hl [1, 2, 3, 0] rfl)
    · skip
      refine lv_iconst (v := 1) hx hb dX12_allows_19 (by decide) ?_
      refine lv_goto (tgt := 24) hx hb dX12_allows_20 (by decide) ?_
      exact J_24_8 1 _ (Or.inr rfl) (lv_sub hl [1, 2, 3, 0] rfl)
set_option maxHeartbeats 4000000 in
set_option maxRecDepth 100000 in
theorem c_X12_scorePlainly (l : Launch) (D : va_G) (K : zK) (hM : mK K) (f : Nat → Int32) (A : Nat → Nat → Int32) (hT : mT f A) (a0 : Nat) (ha0 : a0 ∈ zl K) (hk0 : zk K a0 = 11) (x1 : Int32) (x2 : Int32) (hp0 : 0 ≤ x1.toInt ∧ x1.toInt ≤ 46440 ∧ x1.toInt % 1290 = 0) (hp1 : (f 11).toInt ≤ 1990000000) : Met l yX12_scorePlainly (zc yX12_scorePlainly cX12_scorePlainly 5 (some .int)) (rmd 1) (va_Pc [.ref a0, .int x1, .int x2] (zB D K (mV K f A))) (mQi D K (fun r f' A' => mT f' A' ∧ (∀ k, k ∉ ([50] : List Nat) → A' k = A k) ∧ (∀ k, k ∉ ([11] : List Nat) → f' k = f k) ∧ (f 11).toInt ≤ (f' 11).toInt ∧ (f' 11).toInt ≤ (f 11).toInt + 2 ∧ ((f 12).toInt ≠ 0 → (f' 11).toInt = (f 11).toInt))) 0 0 (zA K) := by
  refine zin (by decide) (Nat.le_of_ble_eq_true rfl) ?_
  intro p e s m args below meth c ls Q hQ C hr hlk hP hs hl
  have C : CallFix p m c cX12_scorePlainly 5 s args zw RX12 := C
  obtain ⟨hx, hb, hml, hown, hts⟩ := id C
  have hO := hM.1
  have hS : va_S (zA K) s.heap s.heap [] := va_S.rf
  have FA : ∀ k, k ∉ ([50] : List Nat) → A k = A k := fun _ _ => rfl
  have FF : ∀ k, k ∉ ([11] : List Nat) → f k = f k := fun _ _ => rfl
  have hl : lv_has ls 5 [(0, .ref a0), (1, .int x1), (2, .int x2)] := hl
  refine lv_iload_n hx hb dX12_scorePlainly_0 rfl (lv_at hl 2 rfl) ?_
  have J_10_4 : ∀ (f_5 : Nat → Int32) (A_5 : Nat → Nat → Int32) (H : Heap) (locs : List Loc) (ls : Array Slot), ((f 11).toInt ≤ (f_5 11).toInt ∧ (f_5 11).toInt ≤ (f 11).toInt + 1 ∧ ((f 12).toInt ≠ 0 → (f_5 11).toInt = (f 11).toInt)) → (∀ k, k ∉ ([50] : List Nat) → A_5 k = A k) → (∀ k, k ∉ ([11] : List Nat) → f_5 k = f k) → mT f_5 A_5 → va_P D vwCl (zW K (mV K f_5 A_5)) H → va_S (zA K) s.heap H locs → lv_has ls 5 [(0, .ref a0), (1, .int x1), (2, .int x2)] → W p l e (rmd 1) s m args below meth c H locs 0 0 Q (F0 m 10 ls []) := by
    intro f_5 A_5 H locs ls iv_5_0 FA_5 FF_5 hT hP hS hl
    have FA := FA_5
    have FF := FF_5
    refine lv_aload_n hx hb dX12_scorePlainly_10 rfl (lv_at hl 0 rfl) ?_
    refine lv_bipush (v := 41) hx hb dX12_scorePlainly_11 (by decide) ?_
    have hq_7 : (f_5 11).toInt ≤ 2000000000 := by (try simp only [ti_41]); first | assumption | omega | (intros; omega)
    refine mcV (zrV (As := [.int 41]) (b := a0) (rest := []) C hs hP hS (c_X12_body l D K hM f_5 A_5 hT a0 ha0 hk0 41 hq_7) m_X12_body wm_X12_124 (zrecv hs hP ha0 (zF_11 hk0) rfl) ⟨by decide, by decide⟩ hl.1 (Nat.le_of_ble_eq_true rfl) dX12_scorePlainly_13) hS (fun f_8 A_8 H locs p_8 hP hS => ?_)
    obtain ⟨hT, hA_8, hF_8, pp_8⟩ := p_8
    have pp_8 : (f_5 11).toInt ≤ (f_8 11).toInt ∧ (f_8 11).toInt ≤ (f_5 11).toInt + 1 ∧ ((f_5 12).toInt ≠ 0 → (f_8 11).toInt = (f_5 11).toInt) := pp_8
    have ev_9 : f_5 12 = f 12 := by rw [FF_5 12 (by decide)]
    rw [ev_9] at pp_8
    try simp only [ti_41] at pp_8
    have FA := frA FA hA_8 (by decide)
    have FF := frF FF hF_8 (by decide)
    refine lv_iconst (v := 1) hx hb dX12_scorePlainly_16 (by decide) ?_
    refine lv_istore_n (lv' := [(3, .int 1), (0, .ref a0), (1, .int x1), (2, .int x2)]) hx hb dX12_scorePlainly_17 rfl hl (by decide) rfl (fun ls hl => ?_)
    refine lv_iconst (v := 0) hx hb dX12_scorePlainly_18 (by decide) ?_
    refine lv_istore (lv' := [(4, .int 0), (3, .int 1), (0, .ref a0), (1, .int x1), (2, .int x2)]) hx hb dX12_scorePlainly_19 hl (by decide) rfl (fun ls hl => ?_)
    have L_21_12 : ∀ (n_12 : Nat) (y_10 : Int32) (y_11 : Int32) (ls : Array Slot), (2147483648 - y_10.toInt).toNat < n_12 → 0 ≤ y_10.toInt → lv_has ls 5 [(4, .int y_10), (3, .int y_11), (0, .ref a0), (1, .int x1), (2, .int x2)] → W p l e (rmd 1) s m args below meth c H locs 0 0 Q (F0 m 21 ls []) := by
      intro n_12
      induction n_12 with
      | zero => intro y_10 y_11 ls hm_12; exact absurd hm_12 (Nat.not_lt_zero _)
      | succ n_12 ih_12 =>
        intro y_10 y_11 ls hm_12 iv_13_0 hl
        refine lv_iload hx hb dX12_scorePlainly_21 (lv_at hl 0 rfl) ?_
        refine lv_aload_n hx hb dX12_scorePlainly_23 rfl (lv_at hl 2 rfl) ?_
        refine mg_16 C hs hP ha0 hk0 wf_X12_127 dX12_scorePlainly_24 ?_
        have ev_14 : f_8 16 = f 16 := by rw [hF_8 16 (by decide), FF_5 16 (by decide)]
        rw [ev_14]
        have tf_15 : 0 ≤ (f 16).toInt ∧ (f 16).toInt ≤ 4 := by rw [← ev_14]; exact hT.1 16
        refine bi_ge (tgt := 64) hx hb rfl rfl dX12_scorePlainly_27 (by decide) (fun c_16 => ?_) (fun c_16 => ?_)
        · skip
          refine lv_iload_n hx hb dX12_scorePlainly_64 rfl (lv_at hl 1 rfl) ?_
          have g_17 := z_rng y_11
          exact maI hQ hx hb hr hlk hP hS ⟨hT, FA, FF, (by first | omega | (intro h9; omega) | (simp; done) | (refine ⟨?_, ?_⟩ <;> intros <;> omega) | (refine ⟨?_, ?_, ?_⟩ <;> intros <;> omega))⟩ dX12_scorePlainly_65
        · skip
          refine lv_iload_n hx hb dX12_scorePlainly_30 rfl (lv_at hl 4 rfl) ?_
          refine bz_eq (tgt := 64) hx hb rfl dX12_scorePlainly_31 (by decide) (fun c_18 => ?_) (fun c_18 => ?_)
          · skip
            refine lv_iload_n hx hb dX12_scorePlainly_64 rfl (lv_at hl 1 rfl) ?_
            have g_19 := z_rng y_11
            exact maI hQ hx hb hr hlk hP hS ⟨hT, FA, FF, (by first | omega | (intro h9; omega) | (simp; done) | (refine ⟨?_, ?_⟩ <;> intros <;> omega) | (refine ⟨?_, ?_, ?_⟩ <;> intros <;> omega))⟩ dX12_scorePlainly_65
          · skip
            refine lv_iload_n hx hb dX12_scorePlainly_34 rfl (lv_at hl 1 rfl) ?_
            refine lv_aload_n hx hb dX12_scorePlainly_35 rfl (lv_at hl 2 rfl) ?_
            refine lv_iload_n hx hb dX12_scorePlainly_36 rfl (lv_at hl 3 rfl) ?_
            refine lv_aload_n hx hb dX12_scorePlainly_37 rfl (lv_at hl 2 rfl) ?_
            refine mg_15 C hs hP ha0 hk0 wf_X12_39 dX12_scorePlainly_38 ?_
            have hf_20 := hO.r (j := 15) ha0 hk0 (rfl : zX 11 15 = some (55, 4))
            refine lv_iload hx hb dX12_scorePlainly_41 (lv_at hl 0 rfl) ?_
            have g_22 := z_rng y_10
            have hin_21 : vp_in y_10 (zn K (zr K a0 15)) := vp_in_iff.mpr (by rw [(hf_20.2.2 (by decide))]; refine ⟨?_, ?_⟩ <;> omega)
            refine mld_55 C hs hP hf_20.1 hf_20.2.1 hin_21 dX12_scorePlainly_43 ?_
            have ev_23 : A_8 55 y_10.toNatClampNeg = A 55 y_10.toNatClampNeg := by rw [hA_8 55 (by decide), FA_5 55 (by decide)]
            have tv_24 : 0 ≤ (A 55 y_10.toNatClampNeg).toInt ∧ (A 55 y_10.toNatClampNeg).toInt ≤ 59 := by rw [← ev_23]; exact ra_55 hT (vp_in_iff.mp hin_21).1 (by have h7 := (vp_in_iff.mp hin_21).2; rw [(hf_20.2.2 (by decide))] at h7; exact h7)
            rw [ev_23]
            have g_25 := z_rng x1
            have g_26 := z_rng (A 55 y_10.toNatClampNeg)
            have hq_27 : 0 ≤ x1.toInt ∧ x1.toInt ≤ 46440 ∧ x1.toInt % 1290 = 0 := by first | assumption | omega | (intros; omega)
            have hq_28 : 0 ≤ (A 55 y_10.toNatClampNeg).toInt ∧ (A 55 y_10.toNatClampNeg).toInt ≤ 59 := by first | assumption | omega | (intros; omega)
            refine zcS (zrV (As := [.int x1, .int (A 55 y_10.toNatClampNeg)]) (b := a0) (rest := [.int y_11]) C hs hP hS (c_X12_colour l D K hM f_8 A_8 hT a0 ha0 hk0 x1 (A 55 y_10.toNatClampNeg) hq_27 hq_28) m_X12_colour wm_X12_120 (zrecv hs hP ha0 (zF_11 hk0) rfl) ⟨by decide, by decide⟩ hl.1 (Nat.le_of_ble_eq_true rfl) dX12_scorePlainly_44) (fun x_29 p_29 => ?_)
            refine lv_iconst (v := 4) hx hb dX12_scorePlainly_47 (by decide) ?_
            have J_56_32 : ∀ (y_31 : Int32) (ls : Array Slot), (y_31 = 0 ∨ y_31 = 1) → lv_has ls 5 [(0, .ref a0), (1, .int x1), (2, .int x2), (3, .int y_11), (4, .int y_10)] → W p l e (rmd 1) s m args below meth c H locs 0 0 Q (F0 m 56 ls [.int y_31, .int y_11]) := by
              intro y_31 ls hb_y_31 hl
              refine lv_iadd hx hb dX12_scorePlainly_56 ?_
              refine lv_topi (fun x_34 ex_34 => ?_)
              refine lv_istore_n (lv' := [(3, .int x_34), (0, .ref a0), (1, .int x1), (2, .int x2), (4, .int y_10)]) hx hb dX12_scorePlainly_57 rfl hl (by decide) rfl (fun ls hl => ?_)
              obtain ⟨x_35, ex_35⟩ : ∃ y : Int32, y = y_10 + 1 := ⟨_, rfl⟩
              refine lv_iinc (v := x_35) (lv' := [(4, .int x_35), (3, .int x_34), (0, .ref a0), (1, .int x1), (2, .int x2)]) hx hb dX12_scorePlainly_58 hl (k := 4) rfl (by rw [ex_35]; rfl) (by decide) rfl (fun ls hl => ?_)
              refine lv_goto (tgt := 21) hx hb dX12_scorePlainly_61 (by decide) ?_
              obtain ⟨f_35, l_35, u_35⟩ := z_add ex_35 rfl ti_1
              have g_36 := z_rng y_11
              have g_37 := z_rng y_31
              obtain ⟨f_34, l_34, u_34⟩ := z_add ex_34 rfl rfl
              have g_38 := z_rng x2
              have g_39 := z_rng (f 16)
              exact ih_12 x_35 x_34 _ (by omega) (by omega) (lv_sub hl [0, 1, 2, 3, 4] rfl)
            refine bi_ne (tgt := 55) hx hb rfl ti_4 dX12_scorePlainly_48 (by decide) (fun c_30 => ?_) (fun c_30 => ?_)
            · skip
              refine lv_iconst (v := 0) hx hb dX12_scorePlainly_55 (by decide) ?_
              exact J_56_32 0 _ (Or.inl rfl) (lv_sub hl [2, 3, 4, 1, 0] rfl)
            · skip
              refine lv_iconst (v := 1) hx hb dX12_scorePlainly_51 (by decide) ?_
              refine lv_goto (tgt := 56) hx hb dX12_scorePlainly_52 (by decide) ?_
              exact J_56_32 1 _ (Or.inr rfl) (lv_sub hl [2, 3, 4, 1, 0] rfl)
    exact L_21_12 _ 0 1 _ (Nat.lt_succ_self _) (by (try simp only [ti_0, ti_1]); omega) (lv_sub hl [0, 1, 2, 3, 4] rfl)
  refine bz_eq (tgt := 10) hx hb rfl dX12_scorePlainly_1 (by decide) (fun c_1 => ?_) (fun c_1 => ?_)
  · skip
    exact J_10_4 f A _ _ _ (by omega) FA FF hT hP hS (lv_sub hl [0, 1, 2] rfl)
  · skip
    refine lv_aload_n hx hb dX12_scorePlainly_4 rfl (lv_at hl 0 rfl) ?_
    refine lv_bipush (v := 42) hx hb dX12_scorePlainly_5 (by decide) ?_
    have hq_40 : (f 11).toInt ≤ 2000000000 := by (try simp only [ti_42]); first | assumption | omega | (intros; omega)
    refine mcV (zrV (As := [.int 42]) (b := a0) (rest := []) C hs hP hS (c_X12_body l D K hM f A hT a0 ha0 hk0 42 hq_40) m_X12_body wm_X12_124 (zrecv hs hP ha0 (zF_11 hk0) rfl) ⟨by decide, by decide⟩ hl.1 (Nat.le_of_ble_eq_true rfl) dX12_scorePlainly_7) hS (fun f_41 A_41 H locs p_41 hP hS => ?_)
    obtain ⟨hT, hA_41, hF_41, pp_41⟩ := p_41
    have pp_41 : (f 11).toInt ≤ (f_41 11).toInt ∧ (f_41 11).toInt ≤ (f 11).toInt + 1 ∧ ((f 12).toInt ≠ 0 → (f_41 11).toInt = (f 11).toInt) := pp_41
    try simp only [ti_42] at pp_41
    have FA := frA FA hA_41 (by decide)
    have FF := frF FF hF_41 (by decide)
    exact J_10_4 f_41 A_41 _ _ _ (by omega) FA FF hT hP hS (lv_sub hl [0, 1, 2] rfl)
set_option maxHeartbeats 4000000 in
set_option maxRecDepth 100000 in
theorem c_X12_score (l : Launch) (D : va_G) (K : zK) (hM : mK K) (f : Nat → Int32) (A : Nat → Nat → Int32) (hT : mT f A) (a0 : Nat) (ha0 : a0 ∈ zl K) (hk0 : zk K a0 = 11) (x1 : Int32) (x2 : Int32) (hp0 : 0 ≤ x1.toInt ∧ x1.toInt ≤ 46440 ∧ x1.toInt % 1290 = 0) (hp1 : 0 ≤ x2.toInt ∧ x2.toInt ≤ 3) (hp2 : (f 11).toInt ≤ 1980000000) : Met l yX12_score (zc yX12_score cX12_score 7 (some .int)) (rmd 2) (va_Pc [.ref a0, .int x1, .int x2] (zB D K (mV K f A))) (mQi D K (fun r f' A' => mT f' A' ∧ (∀ k, k ∉ ([50] : List Nat) → A' k = A k) ∧ (∀ k, k ∉ ([11] : List Nat) → f' k = f k) ∧ (f 11).toInt ≤ (f' 11).toInt ∧ (f' 11).toInt ≤ (f 11).toInt + 4 ∧ ((f 12).toInt ≠ 0 → (f' 11).toInt = (f 11).toInt))) 0 0 (zA K) := by
  refine zin (by decide) (Nat.le_of_ble_eq_true rfl) ?_
  intro p e s m args below meth c ls Q hQ C hr hlk hP hs hl
  have C : CallFix p m c cX12_score 7 s args zw RX12 := C
  obtain ⟨hx, hb, hml, hown, hts⟩ := id C
  have hO := hM.1
  have hS : va_S (zA K) s.heap s.heap [] := va_S.rf
  have FA : ∀ k, k ∉ ([50] : List Nat) → A k = A k := fun _ _ => rfl
  have FF : ∀ k, k ∉ ([11] : List Nat) → f k = f k := fun _ _ => rfl
  have hl : lv_has ls 7 [(0, .ref a0), (1, .int x1), (2, .int x2)] := hl
  refine lv_iconst (v := 0) hx hb dX12_score_0 (by decide) ?_
  refine lv_istore_n (lv' := [(3, .int 0), (0, .ref a0), (1, .int x1), (2, .int x2)]) hx hb dX12_score_1 rfl hl (by decide) rfl (fun ls hl => ?_)
  refine lv_aload_n hx hb dX12_score_2 rfl (lv_at hl 1 rfl) ?_
  refine mg_0 C hs hP ha0 hk0 wf_X12_8 dX12_score_3 ?_
  have hf_1 := hO.r (j := 0) ha0 hk0 (rfl : zX 11 0 = some (40, 47730))
  refine lv_iload_n hx hb dX12_score_6 rfl (lv_at hl 2 rfl) ?_
  refine lv_iconst (v := 2) hx hb dX12_score_7 (by decide) ?_
  refine lv_iadd hx hb dX12_score_8 ?_
  refine lv_topi (fun x_2 ex_2 => ?_)
  have g_4 := z_rng x1
  obtain ⟨f_2, l_2, u_2⟩ := z_add ex_2 rfl ti_2
  have hin_3 : vp_in x_2 (zn K (zr K a0 0)) := vp_in_iff.mpr (by rw [(hf_1.2.2 (by decide))]; refine ⟨?_, ?_⟩ <;> omega)
  refine mld_40 C hs hP hf_1.1 hf_1.2.1 hin_3 dX12_score_9 ?_
  refine lv_iconst (v := 4) hx hb dX12_score_10 (by decide) ?_
  have J_22_9 : ∀ (f_10 : Nat → Int32) (A_10 : Nat → Nat → Int32) (H : Heap) (locs : List Loc) (y_8 : Int32) (ls : Array Slot), (y_8 = 0 ∨ y_8 = 1) → ((f 11).toInt ≤ (f_10 11).toInt ∧ (f_10 11).toInt ≤ (f 11).toInt + 1 ∧ ((f 12).toInt ≠ 0 → (f_10 11).toInt = (f 11).toInt)) → (∀ k, k ∉ ([50] : List Nat) → A_10 k = A k) → (∀ k, k ∉ ([11] : List Nat) → f_10 k = f k) → mT f_10 A_10 → va_P D vwCl (zW K (mV K f_10 A_10)) H → va_S (zA K) s.heap H locs → lv_has ls 7 [(0, .ref a0), (1, .int x1), (2, .int x2), (3, .int y_8)] → W p l e (rmd 2) s m args below meth c H locs 0 0 Q (F0 m 22 ls []) := by
    intro f_10 A_10 H locs y_8 ls hb_y_8 iv_10_0 FA_10 FF_10 hT hP hS hl
    have FA := FA_10
    have FF := FF_10
    refine lv_aload_n hx hb dX12_score_22 rfl (lv_at hl 0 rfl) ?_
    refine mg_0 C hs hP ha0 hk0 wf_X12_8 dX12_score_23 ?_
    refine lv_iload_n hx hb dX12_score_26 rfl (lv_at hl 1 rfl) ?_
    refine lv_iconst (v := 4) hx hb dX12_score_27 (by decide) ?_
    refine lv_iadd hx hb dX12_score_28 ?_
    refine lv_topi (fun x_12 ex_12 => ?_)
    obtain ⟨f_12, l_12, u_12⟩ := z_add ex_12 rfl ti_4
    have hin_13 : vp_in x_12 (zn K (zr K a0 0)) := vp_in_iff.mpr (by rw [(hf_1.2.2 (by decide))]; refine ⟨?_, ?_⟩ <;> omega)
    refine mld_40 C hs hP hf_1.1 hf_1.2.1 hin_13 dX12_score_29 ?_
    have ev_14 : A_10 40 x_12.toNatClampNeg = A 40 x_12.toNatClampNeg := by rw [FA_10 40 (by decide)]
    rw [ev_14]
    refine lv_istore (lv' := [(4, .int (A 40 x_12.toNatClampNeg)), (0, .ref a0), (1, .int x1), (2, .int x2), (3, .int y_8)]) hx hb dX12_score_30 hl (by decide) rfl (fun ls hl => ?_)
    refine lv_iload hx hb dX12_score_32 (lv_at hl 0 rfl) ?_
    refine lv_iconst (v := 2) hx hb dX12_score_34 (by decide) ?_
    refine bi_ne (tgt := 93) hx hb rfl ti_2 dX12_score_35 (by decide) (fun c_15 => ?_) (fun c_15 => ?_)
    · skip
      refine lv_iload hx hb dX12_score_93 (lv_at hl 0 rfl) ?_
      refine lv_iconst (v := 3) hx hb dX12_score_95 (by decide) ?_
      refine bi_ne (tgt := 145) hx hb rfl ti_3 dX12_score_96 (by decide) (fun c_16 => ?_) (fun c_16 => ?_)
      · skip
        refine lv_iload_n hx hb dX12_score_145 rfl (lv_at hl 4 rfl) ?_
        refine lv_aload_n hx hb dX12_score_146 rfl (lv_at hl 1 rfl) ?_
        refine lv_iload_n hx hb dX12_score_147 rfl (lv_at hl 2 rfl) ?_
        refine lv_iload hx hb dX12_score_148 (lv_at hl 0 rfl) ?_
        refine lv_iconst (v := 1) hx hb dX12_score_150 (by decide) ?_
        refine bi_ne (tgt := 158) hx hb rfl ti_1 dX12_score_151 (by decide) (fun c_17 => ?_) (fun c_17 => ?_)
        · skip
          refine lv_iconst (v := 0) hx hb dX12_score_158 (by decide) ?_
          have hq_18 : 0 ≤ x1.toInt ∧ x1.toInt ≤ 46440 ∧ x1.toInt % 1290 = 0 := by (try simp only [ti_0]); first | assumption | omega | (intros; omega)
          have hq_19 : (f_10 11).toInt ≤ 1990000000 := by (try simp only [ti_0]); first | assumption | omega | (intros; omega)
          refine mcI (zrV (As := [.int x1, .int 0]) (b := a0) (rest := [.int y_8]) C hs hP hS (c_X12_scorePlainly l D K hM f_10 A_10 hT a0 ha0 hk0 x1 0 hq_18 hq_19) m_X12_scorePlainly wm_X12_143 (zrecv hs hP ha0 (zF_11 hk0) rfl) ⟨by decide, by decide⟩ hl.1 (Nat.le_of_ble_eq_true rfl) dX12_score_159) hS (fun x_20 f_20 A_20 H locs p_20 hP hS => ?_)
          obtain ⟨hT, hA_20, hF_20, pp_20⟩ := p_20
          have pp_20 : (f_10 11).toInt ≤ (f_20 11).toInt ∧ (f_20 11).toInt ≤ (f_10 11).toInt + 2 ∧ ((f_10 12).toInt ≠ 0 → (f_20 11).toInt = (f_10 11).toInt) := pp_20
          have ev_21 : f_10 12 = f 12 := by rw [FF_10 12 (by decide)]
          rw [ev_21] at pp_20
          try simp only [ti_0] at pp_20
          have FA := frA FA hA_20 (by decide)
          have FF := frF FF hF_20 (by decide)
          refine lv_iadd hx hb dX12_score_162 ?_
          refine lv_topi (fun x_22 ex_22 => ?_)
          have g_23 := z_rng y_8
          have g_24 := z_rng x_20
          obtain ⟨f_22, l_22, u_22⟩ := z_add ex_22 rfl rfl
          exact maI hQ hx hb hr hlk hP hS ⟨hT, FA, FF, (by first | omega | (intro h9; omega) | (simp; done) | (refine ⟨?_, ?_⟩ <;> intros <;> omega) | (refine ⟨?_, ?_, ?_⟩ <;> intros <;> omega))⟩ dX12_score_163
        · skip
          refine lv_iconst (v := 1) hx hb dX12_score_154 (by decide) ?_
          refine lv_goto (tgt := 159) hx hb dX12_score_155 (by decide) ?_
          have hq_25 : 0 ≤ x1.toInt ∧ x1.toInt ≤ 46440 ∧ x1.toInt % 1290 = 0 := by (try simp only [ti_1]); first | assumption | omega | (intros; omega)
          have hq_26 : (f_10 11).toInt ≤ 1990000000 := by (try simp only [ti_1]); first | assumption | omega | (intros; omega)
          refine mcI (zrV (As := [.int x1, .int 1]) (b := a0) (rest := [.int y_8]) C hs hP hS (c_X12_scorePlainly l D K hM f_10 A_10 hT a0 ha0 hk0 x1 1 hq_25 hq_26) m_X12_scorePlainly wm_X12_143 (zrecv hs hP ha0 (zF_11 hk0) rfl) ⟨by decide, by decide⟩ hl.1 (Nat.le_of_ble_eq_true rfl) dX12_score_159) hS (fun x_27 f_27 A_27 H locs p_27 hP hS => ?_)
          obtain ⟨hT, hA_27, hF_27, pp_27⟩ := p_27
          have pp_27 : (f_10 11).toInt ≤ (f_27 11).toInt ∧ (f_27 11).toInt ≤ (f_10 11).toInt + 2 ∧ ((f_10 12).toInt ≠ 0 → (f_27 11).toInt = (f_10 11).toInt) := pp_27
          have ev_28 : f_10 12 = f 12 := by rw [FF_10 12 (by decide)]
          rw [ev_28] at pp_27
          try simp only [ti_1] at pp_27
          have FA := frA FA hA_27 (by decide)
          have FF := frF FF hF_27 (by decide)
          refine lv_iadd hx hb dX12_score_162 ?_
          refine lv_topi (fun x_29 ex_29 => ?_)
          have g_30 := z_rng y_8
          have g_31 := z_rng x_27
          obtain ⟨f_29, l_29, u_29⟩ := z_add ex_29 rfl rfl
          exact maI hQ hx hb hr hlk hP hS ⟨hT, FA, FF, (by first | omega | (intro h9; omega) | (simp; done) | (refine ⟨?_, ?_⟩ <;> intros <;> omega) | (refine ⟨?_, ?_, ?_⟩ <;> intros <;> omega))⟩ dX12_score_163
      · skip
        refine lv_aload_n hx hb dX12_score_99 rfl (lv_at hl 1 rfl) ?_
        refine lv_bipush (v := 44) hx hb dX12_score_100 (by decide) ?_
        have hq_32 : (f_10 11).toInt ≤ 2000000000 := by (try simp only [ti_44]); first | assumption | omega | (intros; omega)
        refine mcV (zrV (As := [.int 44]) (b := a0) (rest := []) C hs hP hS (c_X12_body l D K hM f_10 A_10 hT a0 ha0 hk0 44 hq_32) m_X12_body wm_X12_124 (zrecv hs hP ha0 (zF_11 hk0) rfl) ⟨by decide, by decide⟩ hl.1 (Nat.le_of_ble_eq_true rfl) dX12_score_102) hS (fun f_33 A_33 H locs p_33 hP hS => ?_)
        obtain ⟨hT, hA_33, hF_33, pp_33⟩ := p_33
        have pp_33 : (f_10 11).toInt ≤ (f_33 11).toInt ∧ (f_33 11).toInt ≤ (f_10 11).toInt + 1 ∧ ((f_10 12).toInt ≠ 0 → (f_33 11).toInt = (f_10 11).toInt) := pp_33
        have ev_34 : f_10 12 = f 12 := by rw [FF_10 12 (by decide)]
        rw [ev_34] at pp_33
        try simp only [ti_44] at pp_33
        have FA := frA FA hA_33 (by decide)
        have FF := frF FF hF_33 (by decide)
        refine lv_aload_n hx hb dX12_score_105 rfl (lv_at hl 1 rfl) ?_
        refine lv_iload_n hx hb dX12_score_106 rfl (lv_at hl 2 rfl) ?_
        refine lv_iconst (v := 1) hx hb dX12_score_107 (by decide) ?_
        have hq_35 : 0 ≤ x1.toInt ∧ x1.toInt ≤ 46440 ∧ x1.toInt % 1290 = 0 := by (try simp only [ti_1]); first | assumption | omega | (intros; omega)
        have hq_36 : (f_33 11).toInt ≤ 1990000000 := by (try simp only [ti_1]); first | assumption | omega | (intros; omega)
        refine mcI (zrV (As := [.int x1, .int 1]) (b := a0) (rest := []) C hs hP hS (c_X12_scorePlainly l D K hM f_33 A_33 hT a0 ha0 hk0 x1 1 hq_35 hq_36) m_X12_scorePlainly wm_X12_143 (zrecv hs hP ha0 (zF_11 hk0) rfl) ⟨by decide, by decide⟩ hl.1 (Nat.le_of_ble_eq_true rfl) dX12_score_108) hS (fun x_37 f_37 A_37 H locs p_37 hP hS => ?_)
        obtain ⟨hT, hA_37, hF_37, pp_37⟩ := p_37
        have pp_37 : (f_33 11).toInt ≤ (f_37 11).toInt ∧ (f_37 11).toInt ≤ (f_33 11).toInt + 2 ∧ ((f_33 12).toInt ≠ 0 → (f_37 11).toInt = (f_33 11).toInt) := pp_37
        have ev_38 : f_33 12 = f 12 := by rw [hF_33 12 (by decide), FF_10 12 (by decide)]
        rw [ev_38] at pp_37
        try simp only [ti_1] at pp_37
        have FA := frA FA hA_37 (by decide)
        have FF := frF FF hF_37 (by decide)
        refine lv_istore (lv' := [(5, .int x_37), (4, .int (A 40 x_12.toNatClampNeg)), (0, .ref a0), (1, .int x1), (2, .int x2), (3, .int y_8)]) hx hb dX12_score_111 hl (by decide) rfl (fun ls hl => ?_)
        refine lv_iload_n hx hb dX12_score_113 rfl (lv_at hl 5 rfl) ?_
        refine lv_aload_n hx hb dX12_score_114 rfl (lv_at hl 2 rfl) ?_
        refine mg_15 C hs hP ha0 hk0 wf_X12_39 dX12_score_115 ?_
        have hf_39 := hO.r (j := 15) ha0 hk0 (rfl : zX 11 15 = some (55, 4))
        refine lv_iload_n hx hb dX12_score_118 rfl (lv_at hl 4 rfl) ?_
        have g_41 := z_rng x2
        have hin_40 : vp_in x2 (zn K (zr K a0 15)) := vp_in_iff.mpr (by rw [(hf_39.2.2 (by decide))]; refine ⟨?_, ?_⟩ <;> omega)
        refine mld_55 C hs hP hf_39.1 hf_39.2.1 hin_40 dX12_score_119 ?_
        have ev_42 : A_37 55 x2.toNatClampNeg = A 55 x2.toNatClampNeg := by rw [hA_37 55 (by decide), hA_33 55 (by decide), FA_10 55 (by decide)]
        have tv_43 : 0 ≤ (A 55 x2.toNatClampNeg).toInt ∧ (A 55 x2.toNatClampNeg).toInt ≤ 59 := by rw [← ev_42]; exact ra_55 hT (vp_in_iff.mp hin_40).1 (by have h7 := (vp_in_iff.mp hin_40).2; rw [(hf_39.2.2 (by decide))] at h7; exact h7)
        rw [ev_42]
        refine lv_iconst (v := 4) hx hb dX12_score_120 (by decide) ?_
        refine lv_irem hx hb dX12_score_121 (by decide) ?_
        refine lv_topi (fun x_44 ex_44 => ?_)
        refine lv_aload_n hx hb dX12_score_122 rfl (lv_at hl 2 rfl) ?_
        refine mg_0 C hs hP ha0 hk0 wf_X12_8 dX12_score_123 ?_
        refine lv_iload_n hx hb dX12_score_126 rfl (lv_at hl 3 rfl) ?_
        refine lv_bipush (v := 11) hx hb dX12_score_127 (by decide) ?_
        refine lv_iadd hx hb dX12_score_129 ?_
        refine lv_topi (fun x_45 ex_45 => ?_)
        obtain ⟨f_45, l_45, u_45⟩ := z_add ex_45 rfl ti_11
        have hin_46 : vp_in x_45 (zn K (zr K a0 0)) := vp_in_iff.mpr (by rw [(hf_1.2.2 (by decide))]; refine ⟨?_, ?_⟩ <;> omega)
        refine mld_40 C hs hP hf_1.1 hf_1.2.1 hin_46 dX12_score_130 ?_
        have ev_47 : A_37 40 x_45.toNatClampNeg = A 40 x_45.toNatClampNeg := by rw [hA_37 40 (by decide), hA_33 40 (by decide), FA_10 40 (by decide)]
        rw [ev_47]
        refine bi_ne (tgt := 141) hx hb rfl rfl dX12_score_131 (by decide) (fun c_48 => ?_) (fun c_48 => ?_)
        · skip
          refine lv_iload hx hb dX12_score_141 (lv_at hl 0 rfl) ?_
          refine lv_iadd hx hb dX12_score_143 ?_
          refine lv_topi (fun x_49 ex_49 => ?_)
          have g_50 := z_rng y_8
          have g_51 := z_rng x_37
          obtain ⟨f_49, l_49, u_49⟩ := z_add ex_49 rfl rfl
          have g_52 := z_rng (A 55 x2.toNatClampNeg)
          have f_44 := z_rem ex_44 rfl ti_4 (by decide)
          exact maI hQ hx hb hr hlk hP hS ⟨hT, FA, FF, (by first | omega | (intro h9; omega) | (simp; done) | (refine ⟨?_, ?_⟩ <;> intros <;> omega) | (refine ⟨?_, ?_, ?_⟩ <;> intros <;> omega))⟩ dX12_score_144
        · skip
          refine lv_iconst (v := 2) hx hb dX12_score_134 (by decide) ?_
          refine lv_iload hx hb dX12_score_135 (lv_at hl 0 rfl) ?_
          refine lv_imul hx hb dX12_score_137 ?_
          refine lv_topi (fun x_53 ex_53 => ?_)
          refine lv_goto (tgt := 143) hx hb dX12_score_138 (by decide) ?_
          refine lv_iadd hx hb dX12_score_143 ?_
          refine lv_topi (fun x_54 ex_54 => ?_)
          have g_55 := z_rng y_8
          have g_56 := z_rng x_37
          obtain ⟨f_53, l_53, u_53⟩ := z_mul ex_53 ti_2 rfl
          obtain ⟨f_54, l_54, u_54⟩ := z_add ex_54 rfl rfl
          have g_57 := z_rng (A 55 x2.toNatClampNeg)
          have f_44 := z_rem ex_44 rfl ti_4 (by decide)
          exact maI hQ hx hb hr hlk hP hS ⟨hT, FA, FF, (by first | omega | (intro h9; omega) | (simp; done) | (refine ⟨?_, ?_⟩ <;> intros <;> omega) | (refine ⟨?_, ?_, ?_⟩ <;> intros <;> omega))⟩ dX12_score_144
    · skip
      refine lv_aload_n hx hb dX12_score_38 rfl (lv_at hl 1 rfl) ?_
      refine lv_bipush (v := 43) hx hb dX12_score_39 (by decide) ?_
      have hq_58 : (f_10 11).toInt ≤ 2000000000 := by (try simp only [ti_43]); first | assumption | omega | (intros; omega)
      refine mcV (zrV (As := [.int 43]) (b := a0) (rest := []) C hs hP hS (c_X12_body l D K hM f_10 A_10 hT a0 ha0 hk0 43 hq_58) m_X12_body wm_X12_124 (zrecv hs hP ha0 (zF_11 hk0) rfl) ⟨by decide, by decide⟩ hl.1 (Nat.le_of_ble_eq_true rfl) dX12_score_41) hS (fun f_59 A_59 H locs p_59 hP hS => ?_)
      obtain ⟨hT, hA_59, hF_59, pp_59⟩ := p_59
      have pp_59 : (f_10 11).toInt ≤ (f_59 11).toInt ∧ (f_59 11).toInt ≤ (f_10 11).toInt + 1 ∧ ((f_10 12).toInt ≠ 0 → (f_59 11).toInt = (f_10 11).toInt) := pp_59
      have ev_60 : f_10 12 = f 12 := by rw [FF_10 12 (by decide)]
      rw [ev_60] at pp_59
      try simp only [ti_43] at pp_59
      have FA := frA FA hA_59 (by decide)
      have FF := frF FF hF_59 (by decide)
      refine lv_iconst (v := 0) hx hb dX12_score_44 (by decide) ?_
      refine lv_istore (lv' := [(5, .int 0), (4, .int (A 40 x_12.toNatClampNeg)), (0, .ref a0), (1, .int x1), (2, .int x2), (3, .int y_8)]) hx hb dX12_score_45 hl (by decide) rfl (fun ls hl => ?_)
      refine lv_iconst (v := 0) hx hb dX12_score_47 (by decide) ?_
      refine lv_istore (lv' := [(6, .int 0), (5, .int 0), (4, .int (A 40 x_12.toNatClampNeg)), (0, .ref a0), (1, .int x1), (2, .int x2), (3, .int y_8)]) hx hb dX12_score_48 hl (by decide) rfl (fun ls hl => ?_)
      have L_50_63 : ∀ (n_63 : Nat) (y_61 : Int32) (y_62 : Int32) (ls : Array Slot), (2147483648 - y_61.toInt).toNat < n_63 → 0 ≤ y_61.toInt → lv_has ls 7 [(6, .int y_61), (5, .int y_62), (4, .int (A 40 x_12.toNatClampNeg)), (0, .ref a0), (1, .int x1), (2, .int x2), (3, .int y_8)] → W p l e (rmd 2) s m args below meth c H locs 0 0 Q (F0 m 50 ls []) := by
        intro n_63
        induction n_63 with
        | zero => intro y_61 y_62 ls hm_63; exact absurd hm_63 (Nat.not_lt_zero _)
        | succ n_63 ih_63 =>
          intro y_61 y_62 ls hm_63 iv_64_0 hl
          refine lv_iload hx hb dX12_score_50 (lv_at hl 0 rfl) ?_
          refine lv_aload_n hx hb dX12_score_52 rfl (lv_at hl 3 rfl) ?_
          refine mg_16 C hs hP ha0 hk0 wf_X12_127 dX12_score_53 ?_
          have ev_65 : f_59 16 = f 16 := by rw [hF_59 16 (by decide), FF_10 16 (by decide)]
          rw [ev_65]
          have tf_66 : 0 ≤ (f 16).toInt ∧ (f 16).toInt ≤ 4 := by rw [← ev_65]; exact hT.1 16
          refine bi_ge (tgt := 88) hx hb rfl rfl dX12_score_56 (by decide) (fun c_67 => ?_) (fun c_67 => ?_)
          · skip
            refine lv_iload_n hx hb dX12_score_88 rfl (lv_at hl 6 rfl) ?_
            refine lv_iload hx hb dX12_score_89 (lv_at hl 1 rfl) ?_
            refine lv_isub hx hb dX12_score_91 ?_
            refine lv_topi (fun x_68 ex_68 => ?_)
            have g_69 := z_rng y_8
            have g_70 := z_rng y_62
            obtain ⟨f_68, l_68, u_68⟩ := z_sub ex_68 rfl rfl
            exact maI hQ hx hb hr hlk hP hS ⟨hT, FA, FF, (by first | omega | (intro h9; omega) | (simp; done) | (refine ⟨?_, ?_⟩ <;> intros <;> omega) | (refine ⟨?_, ?_, ?_⟩ <;> intros <;> omega))⟩ dX12_score_92
          · skip
            refine lv_iload hx hb dX12_score_59 (lv_at hl 1 rfl) ?_
            refine lv_aload_n hx hb dX12_score_61 rfl (lv_at hl 3 rfl) ?_
            refine mg_15 C hs hP ha0 hk0 wf_X12_39 dX12_score_62 ?_
            have hf_71 := hO.r (j := 15) ha0 hk0 (rfl : zX 11 15 = some (55, 4))
            refine lv_iload hx hb dX12_score_65 (lv_at hl 0 rfl) ?_
            have g_73 := z_rng y_61
            have hin_72 : vp_in y_61 (zn K (zr K a0 15)) := vp_in_iff.mpr (by rw [(hf_71.2.2 (by decide))]; refine ⟨?_, ?_⟩ <;> omega)
            refine mld_55 C hs hP hf_71.1 hf_71.2.1 hin_72 dX12_score_67 ?_
            have ev_74 : A_59 55 y_61.toNatClampNeg = A 55 y_61.toNatClampNeg := by rw [hA_59 55 (by decide), FA_10 55 (by decide)]
            have tv_75 : 0 ≤ (A 55 y_61.toNatClampNeg).toInt ∧ (A 55 y_61.toNatClampNeg).toInt ≤ 59 := by rw [← ev_74]; exact ra_55 hT (vp_in_iff.mp hin_72).1 (by have h7 := (vp_in_iff.mp hin_72).2; rw [(hf_71.2.2 (by decide))] at h7; exact h7)
            rw [ev_74]
            refine lv_iconst (v := 4) hx hb dX12_score_68 (by decide) ?_
            refine lv_irem hx hb dX12_score_69 (by decide) ?_
            refine lv_topi (fun x_76 ex_76 => ?_)
            refine lv_iconst (v := 3) hx hb dX12_score_70 (by decide) ?_
            have J_79_79 : ∀ (y_78 : Int32) (ls : Array Slot), (y_78 = 0 ∨ y_78 = 1) → lv_has ls 7 [(0, .ref a0), (1, .int x1), (2, .int x2), (3, .int y_8), (4, .int (A 40 x_12.toNatClampNeg)), (5, .int y_62), (6, .int y_61)] → W p l e (rmd 2) s m args below meth c H locs 0 0 Q (F0 m 79 ls [.int y_78, .int y_62]) := by
              intro y_78 ls hb_y_78 hl
              refine lv_iadd hx hb dX12_score_79 ?_
              refine lv_topi (fun x_81 ex_81 => ?_)
              refine lv_istore (lv' := [(5, .int x_81), (0, .ref a0), (1, .int x1), (2, .int x2), (3, .int y_8), (4, .int (A 40 x_12.toNatClampNeg)), (6, .int y_61)]) hx hb dX12_score_80 hl (by decide) rfl (fun ls hl => ?_)
              obtain ⟨x_82, ex_82⟩ : ∃ y : Int32, y = y_61 + 1 := ⟨_, rfl⟩
              refine lv_iinc (v := x_82) (lv' := [(6, .int x_82), (5, .int x_81), (0, .ref a0), (1, .int x1), (2, .int x2), (3, .int y_8), (4, .int (A 40 x_12.toNatClampNeg))]) hx hb dX12_score_82 hl (k := 6) rfl (by rw [ex_82]; rfl) (by decide) rfl (fun ls hl => ?_)
              refine lv_goto (tgt := 50) hx hb dX12_score_85 (by decide) ?_
              obtain ⟨f_82, l_82, u_82⟩ := z_add ex_82 rfl ti_1
              have g_83 := z_rng y_62
              have g_84 := z_rng y_78
              obtain ⟨f_81, l_81, u_81⟩ := z_add ex_81 rfl rfl
              have g_85 := z_rng (f 16)
              exact ih_63 x_82 x_81 _ (by omega) (by omega) (lv_sub hl [0, 1, 6, 2, 3, 4, 5] rfl)
            refine bi_ne (tgt := 78) hx hb rfl ti_3 dX12_score_71 (by decide) (fun c_77 => ?_) (fun c_77 => ?_)
            · skip
              refine lv_iconst (v := 0) hx hb dX12_score_78 (by decide) ?_
              exact J_79_79 0 _ (Or.inl rfl) (lv_sub hl [3, 4, 5, 6, 2, 1, 0] rfl)
            · skip
              refine lv_iconst (v := 1) hx hb dX12_score_74 (by decide) ?_
              refine lv_goto (tgt := 79) hx hb dX12_score_75 (by decide) ?_
              exact J_79_79 1 _ (Or.inr rfl) (lv_sub hl [3, 4, 5, 6, 2, 1, 0] rfl)
      have g_86 := z_rng (A 40 x_12.toNatClampNeg)
      exact L_50_63 _ 0 0 _ (Nat.lt_succ_self _) (by (try simp only [ti_0]); omega) (lv_sub hl [0, 1, 2, 3, 4, 5, 6] rfl)
  refine bi_ne (tgt := 22) hx hb rfl ti_4 dX12_score_11 (by decide) (fun c_5 => ?_) (fun c_5 => ?_)
  · skip
    exact J_22_9 f A _ _ 0 _ (Or.inl rfl) (by omega) FA FF hT hP hS (lv_sub hl [1, 2, 3, 0] rfl)
  · skip
    refine lv_aload_n hx hb dX12_score_14 rfl (lv_at hl 1 rfl) ?_
    refine lv_bipush (v := 45) hx hb dX12_score_15 (by decide) ?_
    have hq_87 : (f 11).toInt ≤ 2000000000 := by (try simp only [ti_45]); first | assumption | omega | (intros; omega)
    refine mcV (zrV (As := [.int 45]) (b := a0) (rest := []) C hs hP hS (c_X12_body l D K hM f A hT a0 ha0 hk0 45 hq_87) m_X12_body wm_X12_124 (zrecv hs hP ha0 (zF_11 hk0) rfl) ⟨by decide, by decide⟩ hl.1 (Nat.le_of_ble_eq_true rfl) dX12_score_17) hS (fun f_88 A_88 H locs p_88 hP hS => ?_)
    obtain ⟨hT, hA_88, hF_88, pp_88⟩ := p_88
    have pp_88 : (f 11).toInt ≤ (f_88 11).toInt ∧ (f_88 11).toInt ≤ (f 11).toInt + 1 ∧ ((f 12).toInt ≠ 0 → (f_88 11).toInt = (f 11).toInt) := pp_88
    try simp only [ti_45] at pp_88
    have FA := frA FA hA_88 (by decide)
    have FF := frF FF hF_88 (by decide)
    refine lv_iconst (v := 1) hx hb dX12_score_20 (by decide) ?_
    refine lv_istore_n (lv' := [(3, .int 1), (0, .ref a0), (1, .int x1), (2, .int x2)]) hx hb dX12_score_21 rfl hl (by decide) rfl (fun ls hl => ?_)
    exact J_22_9 f_88 A_88 _ _ 1 _ (Or.inr rfl) (by omega) FA FF hT hP hS (lv_sub hl [1, 2, 3, 0] rfl)
set_option maxHeartbeats 4000000 in
set_option maxRecDepth 100000 in
theorem c_X12_settle (l : Launch) (D : va_G) (K : zK) (hM : mK K) (f : Nat → Int32) (A : Nat → Nat → Int32) (hT : mT f A) (a0 : Nat) (ha0 : a0 ∈ zl K) (hk0 : zk K a0 = 11) (x1 : Int32) (x2 : Int32) (hp0 : 0 ≤ x1.toInt ∧ x1.toInt ≤ 46440 ∧ x1.toInt % 1290 = 0) (hp1 : 0 ≤ x2.toInt ∧ x2.toInt ≤ 1) (hp2 : (f 11).toInt ≤ 1980000000) : Met l yX12_settle (zc yX12_settle cX12_settle 6 (some .int)) (rmd 1) (va_Pc [.ref a0, .int x1, .int x2] (zB D K (mV K f A))) (mQi D K (fun r f' A' => mT f' A' ∧ (∀ k, k ∉ ([50] : List Nat) → A' k = A k) ∧ (∀ k, k ∉ ([11] : List Nat) → f' k = f k) ∧ (f 11).toInt ≤ (f' 11).toInt ∧ (f' 11).toInt ≤ (f 11).toInt + 3 ∧ ((f 12).toInt ≠ 0 → (f' 11).toInt = (f 11).toInt))) 0 0 (zA K) := by
  refine zin (by decide) (Nat.le_of_ble_eq_true rfl) ?_
  intro p e s m args below meth c ls Q hQ C hr hlk hP hs hl
  have C : CallFix p m c cX12_settle 6 s args zw RX12 := C
  obtain ⟨hx, hb, hml, hown, hts⟩ := id C
  have hO := hM.1
  have hS : va_S (zA K) s.heap s.heap [] := va_S.rf
  have FA : ∀ k, k ∉ ([50] : List Nat) → A k = A k := fun _ _ => rfl
  have FF : ∀ k, k ∉ ([11] : List Nat) → f k = f k := fun _ _ => rfl
  have hl : lv_has ls 6 [(0, .ref a0), (1, .int x1), (2, .int x2)] := hl
  refine lv_aload_n hx hb dX12_settle_0 rfl (lv_at hl 0 rfl) ?_
  refine mg_0 C hs hP ha0 hk0 wf_X12_8 dX12_settle_1 ?_
  have hf_1 := hO.r (j := 0) ha0 hk0 (rfl : zX 11 0 = some (40, 47730))
  refine lv_iload_n hx hb dX12_settle_4 rfl (lv_at hl 1 rfl) ?_
  refine lv_iconst (v := 2) hx hb dX12_settle_5 (by decide) ?_
  refine lv_iadd hx hb dX12_settle_6 ?_
  refine lv_topi (fun x_2 ex_2 => ?_)
  have g_4 := z_rng x1
  obtain ⟨f_2, l_2, u_2⟩ := z_add ex_2 rfl ti_2
  have hin_3 : vp_in x_2 (zn K (zr K a0 0)) := vp_in_iff.mpr (by rw [(hf_1.2.2 (by decide))]; refine ⟨?_, ?_⟩ <;> omega)
  refine mld_40 C hs hP hf_1.1 hf_1.2.1 hin_3 dX12_settle_7 ?_
  refine lv_iconst (v := 4) hx hb dX12_settle_8 (by decide) ?_
  have J_18_8 : ∀ (f_9 : Nat → Int32) (A_9 : Nat → Nat → Int32) (H : Heap) (locs : List Loc) (ls : Array Slot), ((f 11).toInt ≤ (f_9 11).toInt ∧ (f_9 11).toInt ≤ (f 11).toInt + 1 ∧ ((f 12).toInt ≠ 0 → (f_9 11).toInt = (f 11).toInt)) → (∀ k, k ∉ ([50] : List Nat) → A_9 k = A k) → (∀ k, k ∉ ([11] : List Nat) → f_9 k = f k) → mT f_9 A_9 → va_P D vwCl (zW K (mV K f_9 A_9)) H → va_S (zA K) s.heap H locs → lv_has ls 6 [(0, .ref a0), (1, .int x1), (2, .int x2)] → W p l e (rmd 1) s m args below meth c H locs 0 0 Q (F0 m 18 ls []) := by
    intro f_9 A_9 H locs ls iv_9_0 FA_9 FF_9 hT hP hS hl
    have FA := FA_9
    have FF := FF_9
    refine lv_aload_n hx hb dX12_settle_18 rfl (lv_at hl 0 rfl) ?_
    refine mg_0 C hs hP ha0 hk0 wf_X12_8 dX12_settle_19 ?_
    refine lv_iload_n hx hb dX12_settle_22 rfl (lv_at hl 1 rfl) ?_
    refine lv_bipush (v := 17) hx hb dX12_settle_23 (by decide) ?_
    refine lv_iadd hx hb dX12_settle_25 ?_
    refine lv_topi (fun x_11 ex_11 => ?_)
    refine lv_iload_n hx hb dX12_settle_26 rfl (lv_at hl 2 rfl) ?_
    refine lv_iadd hx hb dX12_settle_27 ?_
    refine lv_topi (fun x_12 ex_12 => ?_)
    obtain ⟨f_11, l_11, u_11⟩ := z_add ex_11 rfl ti_17
    have g_14 := z_rng x2
    obtain ⟨f_12, l_12, u_12⟩ := z_add ex_12 rfl rfl
    have hin_13 : vp_in x_12 (zn K (zr K a0 0)) := vp_in_iff.mpr (by rw [(hf_1.2.2 (by decide))]; refine ⟨?_, ?_⟩ <;> omega)
    refine mld_40 C hs hP hf_1.1 hf_1.2.1 hin_13 dX12_settle_28 ?_
    have ev_15 : A_9 40 x_12.toNatClampNeg = A 40 x_12.toNatClampNeg := by rw [FA_9 40 (by decide)]
    rw [ev_15]
    refine lv_istore_n (lv' := [(3, .int (A 40 x_12.toNatClampNeg)), (0, .ref a0), (1, .int x1), (2, .int x2)]) hx hb dX12_settle_29 rfl hl (by decide) rfl (fun ls hl => ?_)
    refine lv_aload_n hx hb dX12_settle_30 rfl (lv_at hl 1 rfl) ?_
    refine mg_0 C hs hP ha0 hk0 wf_X12_8 dX12_settle_31 ?_
    refine lv_iload_n hx hb dX12_settle_34 rfl (lv_at hl 2 rfl) ?_
    refine lv_iconst (v := 4) hx hb dX12_settle_35 (by decide) ?_
    refine lv_iadd hx hb dX12_settle_36 ?_
    refine lv_topi (fun x_16 ex_16 => ?_)
    obtain ⟨f_16, l_16, u_16⟩ := z_add ex_16 rfl ti_4
    have hin_17 : vp_in x_16 (zn K (zr K a0 0)) := vp_in_iff.mpr (by rw [(hf_1.2.2 (by decide))]; refine ⟨?_, ?_⟩ <;> omega)
    refine mld_40 C hs hP hf_1.1 hf_1.2.1 hin_17 dX12_settle_37 ?_
    have ev_18 : A_9 40 x_16.toNatClampNeg = A 40 x_16.toNatClampNeg := by rw [FA_9 40 (by decide)]
    rw [ev_18]
    refine lv_iconst (v := 3) hx hb dX12_settle_38 (by decide) ?_
    have J_118_49 : ∀ (f_50 : Nat → Int32) (A_50 : Nat → Nat → Int32) (H : Heap) (locs : List Loc) (y_48 : Int32) (ls : Array Slot), ((f 11).toInt ≤ (f_50 11).toInt ∧ (f_50 11).toInt ≤ (f 11).toInt + 2 ∧ ((f 12).toInt ≠ 0 → (f_50 11).toInt = (f 11).toInt)) → (∀ k, k ∉ ([50] : List Nat) → A_50 k = A k) → (∀ k, k ∉ ([11] : List Nat) → f_50 k = f k) → mT f_50 A_50 → va_P D vwCl (zW K (mV K f_50 A_50)) H → va_S (zA K) s.heap H locs → lv_has ls 6 [(0, .ref a0), (1, .int x1), (2, .int x2), (3, .int y_48)] → W p l e (rmd 1) s m args below meth c H locs 0 0 Q (F0 m 118 ls []) := by
      intro f_50 A_50 H locs y_48 ls iv_50_0 FA_50 FF_50 hT hP hS hl
      have FA := FA_50
      have FF := FF_50
      refine lv_aload_n hx hb dX12_settle_118 rfl (lv_at hl 0 rfl) ?_
      refine lv_bipush (v := 51) hx hb dX12_settle_119 (by decide) ?_
      have hq_52 : (f_50 11).toInt ≤ 2000000000 := by (try simp only [ti_51]); first | assumption | omega | (intros; omega)
      refine mcV (zrV (As := [.int 51]) (b := a0) (rest := []) C hs hP hS (c_X12_body l D K hM f_50 A_50 hT a0 ha0 hk0 51 hq_52) m_X12_body wm_X12_124 (zrecv hs hP ha0 (zF_11 hk0) rfl) ⟨by decide, by decide⟩ hl.1 (Nat.le_of_ble_eq_true rfl) dX12_settle_121) hS (fun f_53 A_53 H locs p_53 hP hS => ?_)
      obtain ⟨hT, hA_53, hF_53, pp_53⟩ := p_53
      have pp_53 : (f_50 11).toInt ≤ (f_53 11).toInt ∧ (f_53 11).toInt ≤ (f_50 11).toInt + 1 ∧ ((f_50 12).toInt ≠ 0 → (f_53 11).toInt = (f_50 11).toInt) := pp_53
      have ev_54 : f_50 12 = f 12 := by rw [FF_50 12 (by decide)]
      rw [ev_54] at pp_53
      try simp only [ti_51] at pp_53
      have FA := frA FA hA_53 (by decide)
      have FF := frF FF hF_53 (by decide)
      refine lv_iload_n hx hb dX12_settle_124 rfl (lv_at hl 3 rfl) ?_
      refine lv_aload_n hx hb dX12_settle_125 rfl (lv_at hl 0 rfl) ?_
      refine mg_0 C hs hP ha0 hk0 wf_X12_8 dX12_settle_126 ?_
      refine lv_iload_n hx hb dX12_settle_129 rfl (lv_at hl 1 rfl) ?_
      refine lv_bipush (v := 13) hx hb dX12_settle_130 (by decide) ?_
      refine lv_iadd hx hb dX12_settle_132 ?_
      refine lv_topi (fun x_55 ex_55 => ?_)
      obtain ⟨f_55, l_55, u_55⟩ := z_add ex_55 rfl ti_13
      have hin_56 : vp_in x_55 (zn K (zr K a0 0)) := vp_in_iff.mpr (by rw [(hf_1.2.2 (by decide))]; refine ⟨?_, ?_⟩ <;> omega)
      refine mld_40 C hs hP hf_1.1 hf_1.2.1 hin_56 dX12_settle_133 ?_
      have ev_57 : A_53 40 x_55.toNatClampNeg = A 40 x_55.toNatClampNeg := by rw [hA_53 40 (by decide), FA_50 40 (by decide)]
      rw [ev_57]
      refine lv_ishl hx hb dX12_settle_134 ?_
      refine lv_topi (fun x_58 ex_58 => ?_)
      exact maI hQ hx hb hr hlk hP hS ⟨hT, FA, FF, (by first | omega | (intro h9; omega) | (simp; done) | (refine ⟨?_, ?_⟩ <;> intros <;> omega) | (refine ⟨?_, ?_, ?_⟩ <;> intros <;> omega))⟩ dX12_settle_135
    refine bi_ne (tgt := 118) hx hb rfl ti_3 dX12_settle_39 (by decide) (fun c_19 => ?_) (fun c_19 => ?_)
    · skip
      exact J_118_49 f_9 A_9 _ _ (A 40 x_12.toNatClampNeg) _ (by omega) FA FF hT hP hS (lv_sub hl [1, 2, 3, 0] rfl)
    · skip
      refine lv_aload_n hx hb dX12_settle_42 rfl (lv_at hl 1 rfl) ?_
      refine lv_bipush (v := 52) hx hb dX12_settle_43 (by decide) ?_
      have hq_59 : (f_9 11).toInt ≤ 2000000000 := by (try simp only [ti_52]); first | assumption | omega | (intros; omega)
      refine mcV (zrV (As := [.int 52]) (b := a0) (rest := []) C hs hP hS (c_X12_body l D K hM f_9 A_9 hT a0 ha0 hk0 52 hq_59) m_X12_body wm_X12_124 (zrecv hs hP ha0 (zF_11 hk0) rfl) ⟨by decide, by decide⟩ hl.1 (Nat.le_of_ble_eq_true rfl) dX12_settle_45) hS (fun f_60 A_60 H locs p_60 hP hS => ?_)
      obtain ⟨hT, hA_60, hF_60, pp_60⟩ := p_60
      have pp_60 : (f_9 11).toInt ≤ (f_60 11).toInt ∧ (f_60 11).toInt ≤ (f_9 11).toInt + 1 ∧ ((f_9 12).toInt ≠ 0 → (f_60 11).toInt = (f_9 11).toInt) := pp_60
      have ev_61 : f_9 12 = f 12 := by rw [FF_9 12 (by decide)]
      rw [ev_61] at pp_60
      try simp only [ti_52] at pp_60
      have FA := frA FA hA_60 (by decide)
      have FF := frF FF hF_60 (by decide)
      refine lv_aload_n hx hb dX12_settle_48 rfl (lv_at hl 1 rfl) ?_
      refine mg_0 C hs hP ha0 hk0 wf_X12_8 dX12_settle_49 ?_
      refine lv_iload_n hx hb dX12_settle_52 rfl (lv_at hl 2 rfl) ?_
      refine lv_bipush (v := 10) hx hb dX12_settle_53 (by decide) ?_
      refine lv_iadd hx hb dX12_settle_55 ?_
      refine lv_topi (fun x_62 ex_62 => ?_)
      obtain ⟨f_62, l_62, u_62⟩ := z_add ex_62 rfl ti_10
      have hin_63 : vp_in x_62 (zn K (zr K a0 0)) := vp_in_iff.mpr (by rw [(hf_1.2.2 (by decide))]; refine ⟨?_, ?_⟩ <;> omega)
      refine mld_40 C hs hP hf_1.1 hf_1.2.1 hin_63 dX12_settle_56 ?_
      have ev_64 : A_60 40 x_62.toNatClampNeg = A 40 x_62.toNatClampNeg := by rw [hA_60 40 (by decide), FA_9 40 (by decide)]
      rw [ev_64]
      refine lv_istore (lv' := [(4, .int (A 40 x_62.toNatClampNeg)), (3, .int (A 40 x_12.toNatClampNeg)), (0, .ref a0), (1, .int x1), (2, .int x2)]) hx hb dX12_settle_57 hl (by decide) rfl (fun ls hl => ?_)
      refine lv_aload_n hx hb dX12_settle_59 rfl (lv_at hl 2 rfl) ?_
      refine mg_0 C hs hP ha0 hk0 wf_X12_8 dX12_settle_60 ?_
      refine lv_iload_n hx hb dX12_settle_63 rfl (lv_at hl 3 rfl) ?_
      refine lv_bipush (v := 15) hx hb dX12_settle_64 (by decide) ?_
      refine lv_iadd hx hb dX12_settle_66 ?_
      refine lv_topi (fun x_65 ex_65 => ?_)
      refine lv_iload_n hx hb dX12_settle_67 rfl (lv_at hl 4 rfl) ?_
      refine lv_iadd hx hb dX12_settle_68 ?_
      refine lv_topi (fun x_66 ex_66 => ?_)
      obtain ⟨f_65, l_65, u_65⟩ := z_add ex_65 rfl ti_15
      obtain ⟨f_66, l_66, u_66⟩ := z_add ex_66 rfl rfl
      have hin_67 : vp_in x_66 (zn K (zr K a0 0)) := vp_in_iff.mpr (by rw [(hf_1.2.2 (by decide))]; refine ⟨?_, ?_⟩ <;> omega)
      refine mld_40 C hs hP hf_1.1 hf_1.2.1 hin_67 dX12_settle_69 ?_
      have ev_68 : A_60 40 x_66.toNatClampNeg = A 40 x_66.toNatClampNeg := by rw [hA_60 40 (by decide), FA_9 40 (by decide)]
      rw [ev_68]
      refine lv_istore (lv' := [(5, .int (A 40 x_66.toNatClampNeg)), (4, .int (A 40 x_62.toNatClampNeg)), (3, .int (A 40 x_12.toNatClampNeg)), (0, .ref a0), (1, .int x1), (2, .int x2)]) hx hb dX12_settle_70 hl (by decide) rfl (fun ls hl => ?_)
      refine lv_iload hx hb dX12_settle_72 (lv_at hl 1 rfl) ?_
      refine bz_le (tgt := 118) hx hb rfl dX12_settle_74 (by decide) (fun c_69 => ?_) (fun c_69 => ?_)
      · skip
        exact J_118_49 f_60 A_60 _ _ (A 40 x_12.toNatClampNeg) _ (by omega) FA FF hT hP hS (lv_sub hl [3, 4, 5, 2] rfl)
      · skip
        refine lv_aload_n hx hb dX12_settle_77 rfl (lv_at hl 3 rfl) ?_
        refine mg_0 C hs hP ha0 hk0 wf_X12_8 dX12_settle_78 ?_
        refine lv_iload_n hx hb dX12_settle_81 rfl (lv_at hl 4 rfl) ?_
        refine lv_bipush (v := 12) hx hb dX12_settle_82 (by decide) ?_
        refine lv_iadd hx hb dX12_settle_84 ?_
        refine lv_topi (fun x_70 ex_70 => ?_)
        obtain ⟨f_70, l_70, u_70⟩ := z_add ex_70 rfl ti_12
        have hin_71 : vp_in x_70 (zn K (zr K a0 0)) := vp_in_iff.mpr (by rw [(hf_1.2.2 (by decide))]; refine ⟨?_, ?_⟩ <;> omega)
        refine mld_40 C hs hP hf_1.1 hf_1.2.1 hin_71 dX12_settle_85 ?_
        have ev_72 : A_60 40 x_70.toNatClampNeg = A 40 x_70.toNatClampNeg := by rw [hA_60 40 (by decide), FA_9 40 (by decide)]
        rw [ev_72]
        refine lv_iconst (v := 2) hx hb dX12_settle_86 (by decide) ?_
        refine lv_irem hx hb dX12_settle_87 (by decide) ?_
        refine lv_topi (fun x_73 ex_73 => ?_)
        refine lv_iload_n hx hb dX12_settle_88 rfl (lv_at hl 5 rfl) ?_
        refine bi_ne (tgt := 118) hx hb rfl rfl dX12_settle_89 (by decide) (fun c_74 => ?_) (fun c_74 => ?_)
        · skip
          exact J_118_49 f_60 A_60 _ _ (A 40 x_12.toNatClampNeg) _ (by omega) FA FF hT hP hS (lv_sub hl [3, 4, 5, 2] rfl)
        · skip
          refine lv_iload hx hb dX12_settle_92 (lv_at hl 0 rfl) ?_
          refine lv_iload hx hb dX12_settle_94 (lv_at hl 1 rfl) ?_
          have J_117_81 : ∀ (y_80 : Int32) (ls : Array Slot), lv_has ls 6 [(0, .ref a0), (1, .int x1), (2, .int x2), (3, .int (A 40 x_12.toNatClampNeg)), (4, .int (A 40 x_62.toNatClampNeg)), (5, .int (A 40 x_66.toNatClampNeg))] → W p l e (rmd 1) s m args below meth c H locs 0 0 Q (F0 m 117 ls [.int y_80]) := by
            intro y_80 ls hl
            refine lv_istore_n (lv' := [(3, .int y_80), (0, .ref a0), (1, .int x1), (2, .int x2), (4, .int (A 40 x_62.toNatClampNeg)), (5, .int (A 40 x_66.toNatClampNeg))]) hx hb dX12_settle_117 rfl hl (by decide) rfl (fun ls hl => ?_)
            exact J_118_49 f_60 A_60 _ _ y_80 _ (by omega) FA FF hT hP hS (lv_sub hl [1, 2, 3, 0] rfl)
          refine bi_lt (tgt := 109) hx hb rfl rfl dX12_settle_96 (by decide) (fun c_75 => ?_) (fun c_75 => ?_)
          · skip
            refine lv_bipush (v := 10) hx hb dX12_settle_109 (by decide) ?_
            refine lv_iload hx hb dX12_settle_111 (lv_at hl 0 rfl) ?_
            refine lv_iload hx hb dX12_settle_113 (lv_at hl 1 rfl) ?_
            refine lv_isub hx hb dX12_settle_115 ?_
            refine lv_topi (fun x_83 ex_83 => ?_)
            refine lv_imul hx hb dX12_settle_116 ?_
            refine lv_topi (fun x_84 ex_84 => ?_)
            exact J_117_81 x_84 _ (lv_sub hl [3, 4, 5, 2, 1, 0] rfl)
          · skip
            refine lv_iload_n hx hb dX12_settle_99 rfl (lv_at hl 2 rfl) ?_
            refine lv_bipush (v := 10) hx hb dX12_settle_100 (by decide) ?_
            refine lv_iload hx hb dX12_settle_102 (lv_at hl 1 rfl) ?_
            refine lv_imul hx hb dX12_settle_104 ?_
            refine lv_topi (fun x_85 ex_85 => ?_)
            refine lv_iadd hx hb dX12_settle_105 ?_
            refine lv_topi (fun x_86 ex_86 => ?_)
            refine lv_goto (tgt := 117) hx hb dX12_settle_106 (by decide) ?_
            exact J_117_81 x_86 _ (lv_sub hl [3, 4, 5, 2, 1, 0] rfl)
  refine bi_ne (tgt := 18) hx hb rfl ti_4 dX12_settle_9 (by decide) (fun c_5 => ?_) (fun c_5 => ?_)
  · skip
    exact J_18_8 f A _ _ _ (by omega) FA FF hT hP hS (lv_sub hl [0, 1, 2] rfl)
  · skip
    refine lv_aload_n hx hb dX12_settle_12 rfl (lv_at hl 0 rfl) ?_
    refine lv_bipush (v := 53) hx hb dX12_settle_13 (by decide) ?_
    have hq_87 : (f 11).toInt ≤ 2000000000 := by (try simp only [ti_53]); first | assumption | omega | (intros; omega)
    refine mcV (zrV (As := [.int 53]) (b := a0) (rest := []) C hs hP hS (c_X12_body l D K hM f A hT a0 ha0 hk0 53 hq_87) m_X12_body wm_X12_124 (zrecv hs hP ha0 (zF_11 hk0) rfl) ⟨by decide, by decide⟩ hl.1 (Nat.le_of_ble_eq_true rfl) dX12_settle_15) hS (fun f_88 A_88 H locs p_88 hP hS => ?_)
    obtain ⟨hT, hA_88, hF_88, pp_88⟩ := p_88
    have pp_88 : (f 11).toInt ≤ (f_88 11).toInt ∧ (f_88 11).toInt ≤ (f 11).toInt + 1 ∧ ((f 12).toInt ≠ 0 → (f_88 11).toInt = (f 11).toInt) := pp_88
    try simp only [ti_53] at pp_88
    have FA := frA FA hA_88 (by decide)
    have FF := frF FF hF_88 (by decide)
    exact J_18_8 f_88 A_88 _ _ _ (by omega) FA FF hT hP hS (lv_sub hl [0, 1, 2] rfl)
set_option maxHeartbeats 4000000 in
set_option maxRecDepth 100000 in
theorem c_X12_sizeOf (l : Launch) (D : va_G) (K : zK) (hM : mK K) (f : Nat → Int32) (A : Nat → Nat → Int32) (hT : mT f A) (a0 : Nat) (ha0 : a0 ∈ zl K) (hk0 : zk K a0 = 11) (x1 : Int32) (hp0 : 0 ≤ x1.toInt ∧ x1.toInt ≤ 46440 ∧ x1.toInt % 1290 = 0) : Met l yX12_sizeOf (zc yX12_sizeOf cX12_sizeOf 3 (some .int)) (rmd 0) (va_Pc [.ref a0, .int x1] (zB D K (mV K f A))) (vp_Si (fun r => True)) 0 0 (fun _ => False) := by
  refine zin (by decide) (Nat.le_of_ble_eq_true rfl) ?_
  intro p e s m args below meth c ls Q hQ C hr hlk hP hs hl
  have C : CallFix p m c cX12_sizeOf 3 s args zw RX12 := C
  obtain ⟨hx, hb, hml, hown, hts⟩ := id C
  have hO := hM.1
  have hS : va_S (zA K) s.heap s.heap [] := va_S.rf
  have hl : lv_has ls 3 [(0, .ref a0), (1, .int x1)] := hl
  refine lv_aload_n hx hb dX12_sizeOf_0 rfl (lv_at hl 0 rfl) ?_
  refine mg_0 C hs hP ha0 hk0 wf_X12_8 dX12_sizeOf_1 ?_
  have hf_1 := hO.r (j := 0) ha0 hk0 (rfl : zX 11 0 = some (40, 47730))
  refine lv_iload_n hx hb dX12_sizeOf_4 rfl (lv_at hl 1 rfl) ?_
  refine lv_iconst (v := 1) hx hb dX12_sizeOf_5 (by decide) ?_
  refine lv_iadd hx hb dX12_sizeOf_6 ?_
  refine lv_topi (fun x_2 ex_2 => ?_)
  have g_4 := z_rng x1
  obtain ⟨f_2, l_2, u_2⟩ := z_add ex_2 rfl ti_1
  have hin_3 : vp_in x_2 (zn K (zr K a0 0)) := vp_in_iff.mpr (by rw [(hf_1.2.2 (by decide))]; refine ⟨?_, ?_⟩ <;> omega)
  refine mld_40 C hs hP hf_1.1 hf_1.2.1 hin_3 dX12_sizeOf_7 ?_
  have hr_5 : 0 ≤ x_2.toInt ∧ x_2.toInt < 47730 ∧ x_2.toInt % 1290 = 1 := by omega
  have tv_6 : 0 ≤ (A 40 x_2.toNatClampNeg).toInt ∧ (A 40 x_2.toNatClampNeg).toInt ≤ 60 := rt_1 hT hr_5.1 hr_5.2.1 hr_5.2.2
  refine lv_istore_n (lv' := [(2, .int (A 40 x_2.toNatClampNeg)), (0, .ref a0), (1, .int x1)]) hx hb dX12_sizeOf_8 rfl hl (by decide) rfl (fun ls hl => ?_)
  refine lv_aload_n hx hb dX12_sizeOf_9 rfl (lv_at hl 1 rfl) ?_
  refine mg_0 C hs hP ha0 hk0 wf_X12_8 dX12_sizeOf_10 ?_
  refine lv_iload_n hx hb dX12_sizeOf_13 rfl (lv_at hl 2 rfl) ?_
  refine lv_iconst (v := 2) hx hb dX12_sizeOf_14 (by decide) ?_
  refine lv_iadd hx hb dX12_sizeOf_15 ?_
  refine lv_topi (fun x_7 ex_7 => ?_)
  obtain ⟨f_7, l_7, u_7⟩ := z_add ex_7 rfl ti_2
  have hin_8 : vp_in x_7 (zn K (zr K a0 0)) := vp_in_iff.mpr (by rw [(hf_1.2.2 (by decide))]; refine ⟨?_, ?_⟩ <;> omega)
  refine mld_40 C hs hP hf_1.1 hf_1.2.1 hin_8 dX12_sizeOf_16 ?_
  refine lv_iconst (v := 4) hx hb dX12_sizeOf_17 (by decide) ?_
  refine bi_eq (tgt := 27) hx hb rfl ti_4 dX12_sizeOf_18 (by decide) (fun c_9 => ?_) (fun c_9 => ?_)
  · skip
    refine lv_iload_n hx hb dX12_sizeOf_27 rfl (lv_at hl 0 rfl) ?_
    refine lv_bipush (v := 8) hx hb dX12_sizeOf_28 (by decide) ?_
    refine bi_ge (tgt := 37) hx hb rfl ti_8 dX12_sizeOf_30 (by decide) (fun c_10 => ?_) (fun c_10 => ?_)
    · skip
      refine lv_iload_n hx hb dX12_sizeOf_37 rfl (lv_at hl 0 rfl) ?_
      refine lv_bipush (v := 8) hx hb dX12_sizeOf_38 (by decide) ?_
      refine lv_idiv hx hb dX12_sizeOf_40 (by decide) ?_
      refine lv_topi (fun x_11 ex_11 => ?_)
      exact zaS hQ hx hb hr hlk trivial dX12_sizeOf_41
    · skip
      refine lv_iconst (v := 1) hx hb dX12_sizeOf_33 (by decide) ?_
      refine lv_goto (tgt := 41) hx hb dX12_sizeOf_34 (by decide) ?_
      exact zaS hQ hx hb hr hlk trivial dX12_sizeOf_41
  · skip
    refine lv_iload_n hx hb dX12_sizeOf_21 rfl (lv_at hl 0 rfl) ?_
    refine lv_iconst (v := 4) hx hb dX12_sizeOf_22 (by decide) ?_
    refine lv_idiv hx hb dX12_sizeOf_23 (by decide) ?_
    refine lv_topi (fun x_12 ex_12 => ?_)
    refine lv_goto (tgt := 41) hx hb dX12_sizeOf_24 (by decide) ?_
    exact zaS hQ hx hb hr hlk trivial dX12_sizeOf_41
set_option maxHeartbeats 4000000 in
set_option maxRecDepth 100000 in
theorem c_X12_isOpen (l : Launch) (D : va_G) (K : zK) (hM : mK K) (f : Nat → Int32) (A : Nat → Nat → Int32) (hT : mT f A) (a0 : Nat) (ha0 : a0 ∈ zl K) (hk0 : zk K a0 = 11) (x1 : Int32) (x2 : Int32) (hp0 : 0 ≤ x1.toInt ∧ x1.toInt ≤ 46440 ∧ x1.toInt % 1290 = 0) (hp1 : 0 ≤ x2.toInt ∧ x2.toInt ≤ 3) : Met l yX12_isOpen (zc yX12_isOpen cX12_isOpen 3 (some .boolean)) (rmd 0) (va_Pc [.ref a0, .int x1, .int x2] (zB D K (mV K f A))) (vp_Si (fun r => (r = 0 ∨ r = 1))) 0 0 (fun _ => False) := by
  refine zin (by decide) (Nat.le_of_ble_eq_true rfl) ?_
  intro p e s m args below meth c ls Q hQ C hr hlk hP hs hl
  have C : CallFix p m c cX12_isOpen 3 s args zw RX12 := C
  obtain ⟨hx, hb, hml, hown, hts⟩ := id C
  have hO := hM.1
  have hS : va_S (zA K) s.heap s.heap [] := va_S.rf
  have hl : lv_has ls 3 [(0, .ref a0), (1, .int x1), (2, .int x2)] := hl
  refine lv_aload_n hx hb dX12_isOpen_0 rfl (lv_at hl 0 rfl) ?_
  refine mg_0 C hs hP ha0 hk0 wf_X12_8 dX12_isOpen_1 ?_
  have hf_1 := hO.r (j := 0) ha0 hk0 (rfl : zX 11 0 = some (40, 47730))
  refine lv_iload_n hx hb dX12_isOpen_4 rfl (lv_at hl 1 rfl) ?_
  refine lv_iconst (v := 5) hx hb dX12_isOpen_5 (by decide) ?_
  refine lv_iadd hx hb dX12_isOpen_6 ?_
  refine lv_topi (fun x_2 ex_2 => ?_)
  have g_4 := z_rng x1
  obtain ⟨f_2, l_2, u_2⟩ := z_add ex_2 rfl ti_5
  have hin_3 : vp_in x_2 (zn K (zr K a0 0)) := vp_in_iff.mpr (by rw [(hf_1.2.2 (by decide))]; refine ⟨?_, ?_⟩ <;> omega)
  refine mld_40 C hs hP hf_1.1 hf_1.2.1 hin_3 dX12_isOpen_7 ?_
  refine lv_iconst (v := 1) hx hb dX12_isOpen_8 (by decide) ?_
  refine bi_ne (tgt := 43) hx hb rfl ti_1 dX12_isOpen_9 (by decide) (fun c_5 => ?_) (fun c_5 => ?_)
  · skip
    refine lv_iconst (v := 0) hx hb dX12_isOpen_43 (by decide) ?_
    exact zaSz hQ hx hb hr hlk (Or.inl rfl) (Or.inl rfl) dX12_isOpen_44
  · skip
    refine lv_aload_n hx hb dX12_isOpen_12 rfl (lv_at hl 0 rfl) ?_
    refine mg_0 C hs hP ha0 hk0 wf_X12_8 dX12_isOpen_13 ?_
    refine lv_iload_n hx hb dX12_isOpen_16 rfl (lv_at hl 1 rfl) ?_
    refine lv_bipush (v := 14) hx hb dX12_isOpen_17 (by decide) ?_
    refine lv_iadd hx hb dX12_isOpen_19 ?_
    refine lv_topi (fun x_6 ex_6 => ?_)
    obtain ⟨f_6, l_6, u_6⟩ := z_add ex_6 rfl ti_14
    have hin_7 : vp_in x_6 (zn K (zr K a0 0)) := vp_in_iff.mpr (by rw [(hf_1.2.2 (by decide))]; refine ⟨?_, ?_⟩ <;> omega)
    refine mld_40 C hs hP hf_1.1 hf_1.2.1 hin_7 dX12_isOpen_20 ?_
    refine bz_ne (tgt := 43) hx hb rfl dX12_isOpen_21 (by decide) (fun c_8 => ?_) (fun c_8 => ?_)
    · skip
      refine lv_iconst (v := 0) hx hb dX12_isOpen_43 (by decide) ?_
      exact zaSz hQ hx hb hr hlk (Or.inl rfl) (Or.inl rfl) dX12_isOpen_44
    · skip
      refine lv_aload_n hx hb dX12_isOpen_24 rfl (lv_at hl 0 rfl) ?_
      refine mg_0 C hs hP ha0 hk0 wf_X12_8 dX12_isOpen_25 ?_
      refine lv_iload_n hx hb dX12_isOpen_28 rfl (lv_at hl 1 rfl) ?_
      refine lv_bipush (v := 35) hx hb dX12_isOpen_29 (by decide) ?_
      refine lv_iadd hx hb dX12_isOpen_31 ?_
      refine lv_topi (fun x_9 ex_9 => ?_)
      refine lv_iload_n hx hb dX12_isOpen_32 rfl (lv_at hl 2 rfl) ?_
      refine lv_iadd hx hb dX12_isOpen_33 ?_
      refine lv_topi (fun x_10 ex_10 => ?_)
      obtain ⟨f_9, l_9, u_9⟩ := z_add ex_9 rfl ti_35
      have g_12 := z_rng x2
      obtain ⟨f_10, l_10, u_10⟩ := z_add ex_10 rfl rfl
      have hin_11 : vp_in x_10 (zn K (zr K a0 0)) := vp_in_iff.mpr (by rw [(hf_1.2.2 (by decide))]; refine ⟨?_, ?_⟩ <;> omega)
      refine mld_40 C hs hP hf_1.1 hf_1.2.1 hin_11 dX12_isOpen_34 ?_
      have hr_13 : 0 ≤ x_10.toInt ∧ x_10.toInt < 47730 ∧ 35 ≤ x_10.toInt % 1290 ∧ x_10.toInt % 1290 ≤ 38 := by omega
      have tv_14 : 0 ≤ (A 40 x_10.toNatClampNeg).toInt ∧ (A 40 x_10.toNatClampNeg).toInt ≤ 1 := rt_35 hT hr_13.1 hr_13.2.1 hr_13.2.2.1 hr_13.2.2.2
      refine lv_iconst (v := 1) hx hb dX12_isOpen_35 (by decide) ?_
      refine bi_ne (tgt := 43) hx hb rfl ti_1 dX12_isOpen_36 (by decide) (fun c_15 => ?_) (fun c_15 => ?_)
      · skip
        refine lv_iconst (v := 0) hx hb dX12_isOpen_43 (by decide) ?_
        exact zaSz hQ hx hb hr hlk (Or.inl rfl) (Or.inl rfl) dX12_isOpen_44
      · skip
        refine lv_iconst (v := 1) hx hb dX12_isOpen_39 (by decide) ?_
        refine lv_goto (tgt := 44) hx hb dX12_isOpen_40 (by decide) ?_
        exact zaSz hQ hx hb hr hlk (Or.inr rfl) (Or.inr rfl) dX12_isOpen_44
