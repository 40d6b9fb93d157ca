set_option maxHeartbeats 4000000 in
set_option maxRecDepth 100000 in
theorem c_X12_in (l : Launch) (D : va_G) (K : zK) (hM : mK K) (f : Nat → Int32) (A : Nat → Nat → Int32) (hT : mT f A) (x0 : Int32) (x1 : Int32) (x2 : Int32) : Met l yX12_in (zc yX12_in cX12_in 3 (some .boolean)) (rmd 0) (va_Pc [.int x0, .int x1, .int x2] (zB D K (mV K f A))) (vp_Si (fun r => (r = 0 ∨ r = 1) ∧ (r.toInt ≠ 0 → x1.toInt ≤ x0.toInt ∧ x0.toInt ≤ x2.toInt) ∧ (r.toInt = 0 → x0.toInt < x1.toInt ∨ x2.toInt < x0.toInt))) 0 0 (fun _ => False) := by
  refine zin (by decide) (Nat.le_of_ble_eq_true rfl) ?_
  intro p e s m args below meth c ls Q hQ C hr hlk hP hs hl
  have C : CallFix p m c cX12_in 3 s args zw RX12 := C
  obtain ⟨hx, hb, hml, hown, hts⟩ := id C
  have hO := hM.1
  have hS : va_S (zA K) s.heap s.heap [] := va_S.rf
  have hl : lv_has ls 3 [(0, .int x0), (1, .int x1), (2, .int x2)] := hl
  refine lv_iload_n hx hb dX12_in_0 rfl (lv_at hl 0 rfl) ?_
  refine lv_iload_n hx hb dX12_in_1 rfl (lv_at hl 1 rfl) ?_
  refine bi_lt (tgt := 14) hx hb rfl rfl dX12_in_2 (by decide) (fun c_1 => ?_) (fun c_1 => ?_)
  · skip
    refine lv_iconst (v := 0) hx hb dX12_in_14 (by decide) ?_
    exact zaSz hQ hx hb hr hlk (Or.inl rfl) ⟨(Or.inl rfl), (by (try dsimp only); (try simp only [ti_0]); (first | omega | (intro h9; omega) | (simp; done) | (refine ⟨?_, ?_⟩ <;> intros <;> first | trivial | omega) | (refine ⟨?_, ?_, ?_⟩ <;> intros <;> first | trivial | omega)))⟩ dX12_in_15
  · skip
    refine lv_iload_n hx hb dX12_in_5 rfl (lv_at hl 0 rfl) ?_
    refine lv_iload_n hx hb dX12_in_6 rfl (lv_at hl 2 rfl) ?_
    refine bi_gt (tgt := 14) hx hb rfl rfl dX12_in_7 (by decide) (fun c_2 => ?_) (fun c_2 => ?_)
    · skip
      refine lv_iconst (v := 0) hx hb dX12_in_14 (by decide) ?_
      exact zaSz hQ hx hb hr hlk (Or.inl rfl) ⟨(Or.inl rfl), (by (try dsimp only); (try simp only [ti_0]); (first | omega | (intro h9; omega) | (simp; done) | (refine ⟨?_, ?_⟩ <;> intros <;> first | trivial | omega) | (refine ⟨?_, ?_, ?_⟩ <;> intros <;> first | trivial | omega)))⟩ dX12_in_15
    · skip
      refine lv_iconst (v := 1) hx hb dX12_in_10 (by decide) ?_
      refine lv_goto (tgt := 15) hx hb dX12_in_11 (by decide) ?_
      exact zaSz hQ hx hb hr hlk (Or.inr rfl) ⟨(Or.inr rfl), (by (try dsimp only); (try simp only [ti_1]); (first | omega | (intro h9; omega) | (simp; done) | (refine ⟨?_, ?_⟩ <;> intros <;> first | trivial | omega) | (refine ⟨?_, ?_, ?_⟩ <;> intros <;> first | trivial | omega)))⟩ dX12_in_15
set_option maxHeartbeats 4000000 in
set_option maxRecDepth 100000 in
theorem c_X12_least (l : Launch) (D : va_G) (K : zK) (hM : mK K) (f : Nat → Int32) (A : Nat → Nat → Int32) (hT : mT f A) (x0 : Int32) (x1 : Int32) : Met l yX12_least (zc yX12_least cX12_least 2 (some .int)) (rmd 0) (va_Pc [.int x0, .int x1] (zB D K (mV K f A))) (vp_Si (fun r => r.toInt ≤ x0.toInt ∧ r.toInt ≤ x1.toInt ∧ (r.toInt = x0.toInt ∨ r.toInt = x1.toInt))) 0 0 (fun _ => False) := by
  refine zin (by decide) (Nat.le_of_ble_eq_true rfl) ?_
  intro p e s m args below meth c ls Q hQ C hr hlk hP hs hl
  have C : CallFix p m c cX12_least 2 s args zw RX12 := C
  obtain ⟨hx, hb, hml, hown, hts⟩ := id C
  have hO := hM.1
  have hS : va_S (zA K) s.heap s.heap [] := va_S.rf
  have hl : lv_has ls 2 [(0, .int x0), (1, .int x1)] := hl
  refine lv_iload_n hx hb dX12_least_0 rfl (lv_at hl 0 rfl) ?_
  refine lv_iload_n hx hb dX12_least_1 rfl (lv_at hl 1 rfl) ?_
  refine bi_ge (tgt := 9) hx hb rfl rfl dX12_least_2 (by decide) (fun c_1 => ?_) (fun c_1 => ?_)
  · skip
    refine lv_iload_n hx hb dX12_least_9 rfl (lv_at hl 1 rfl) ?_
    have g_2 := z_rng x1
    exact zaS hQ hx hb hr hlk (by (try dsimp only); (first | omega | (intro h9; omega) | (simp; done) | (refine ⟨?_, ?_⟩ <;> intros <;> first | trivial | omega) | (refine ⟨?_, ?_, ?_⟩ <;> intros <;> first | trivial | omega))) dX12_least_10
  · skip
    refine lv_iload_n hx hb dX12_least_5 rfl (lv_at hl 0 rfl) ?_
    refine lv_goto (tgt := 10) hx hb dX12_least_6 (by decide) ?_
    have g_3 := z_rng x0
    exact zaS hQ hx hb hr hlk (by (try dsimp only); (first | omega | (intro h9; omega) | (simp; done) | (refine ⟨?_, ?_⟩ <;> intros <;> first | trivial | omega) | (refine ⟨?_, ?_, ?_⟩ <;> intros <;> first | trivial | omega))) dX12_least_10
set_option maxHeartbeats 4000000 in
set_option maxRecDepth 100000 in
theorem c_X12_most (l : Launch) (D : va_G) (K : zK) (hM : mK K) (f : Nat → Int32) (A : Nat → Nat → Int32) (hT : mT f A) (x0 : Int32) (x1 : Int32) : Met l yX12_most (zc yX12_most cX12_most 2 (some .int)) (rmd 0) (va_Pc [.int x0, .int x1] (zB D K (mV K f A))) (vp_Si (fun r => x0.toInt ≤ r.toInt ∧ x1.toInt ≤ r.toInt ∧ (r.toInt = x0.toInt ∨ r.toInt = x1.toInt))) 0 0 (fun _ => False) := by
  refine zin (by decide) (Nat.le_of_ble_eq_true rfl) ?_
  intro p e s m args below meth c ls Q hQ C hr hlk hP hs hl
  have C : CallFix p m c cX12_most 2 s args zw RX12 := C
  obtain ⟨hx, hb, hml, hown, hts⟩ := id C
  have hO := hM.1
  have hS : va_S (zA K) s.heap s.heap [] := va_S.rf
  have hl : lv_has ls 2 [(0, .int x0), (1, .int x1)] := hl
  refine lv_iload_n hx hb dX12_most_0 rfl (lv_at hl 0 rfl) ?_
  refine lv_iload_n hx hb dX12_most_1 rfl (lv_at hl 1 rfl) ?_
  refine bi_le (tgt := 9) hx hb rfl rfl dX12_most_2 (by decide) (fun c_1 => ?_) (fun c_1 => ?_)
  · skip
    refine lv_iload_n hx hb dX12_most_9 rfl (lv_at hl 1 rfl) ?_
    have g_2 := z_rng x1
    exact zaS hQ hx hb hr hlk (by (try dsimp only); (first | omega | (intro h9; omega) | (simp; done) | (refine ⟨?_, ?_⟩ <;> intros <;> first | trivial | omega) | (refine ⟨?_, ?_, ?_⟩ <;> intros <;> first | trivial | omega))) dX12_most_10
  · skip
    refine lv_iload_n hx hb dX12_most_5 rfl (lv_at hl 0 rfl) ?_
    refine lv_goto (tgt := 10) hx hb dX12_most_6 (by decide) ?_
    have g_3 := z_rng x0
    exact zaS hQ hx hb hr hlk (by (try dsimp only); (first | omega | (intro h9; omega) | (simp; done) | (refine ⟨?_, ?_⟩ <;> intros <;> first | trivial | omega) | (refine ⟨?_, ?_, ?_⟩ <;> intros <;> first | trivial | omega))) dX12_most_10
set_option maxHeartbeats 4000000 in
set_option maxRecDepth 100000 in
theorem c_X12_body (l : Launch) (D : va_G) (K : zK) (hM : mK K) (f : Nat → Int32) (A : Nat → Nat → Int32) (hT : mT f A) (a0 : Nat) (ha0 : a0 ∈ zl K) (hk0 : zk K a0 = 11) (x1 : Int32) (hp0 : (f 11).toInt ≤ 2000000000) : Met l yX12_body (zc yX12_body cX12_body 2 none) (rmd 0) (va_Pc [.ref a0, .int x1] (zB D K (mV K f A))) (mQv D K (fun f' A' => mT f' A' ∧ (∀ k, k ∉ ([50] : List Nat) → A' k = A k) ∧ (∀ k, k ∉ ([11] : List Nat) → f' k = f k) ∧ (f 11).toInt ≤ (f' 11).toInt ∧ (f' 11).toInt ≤ (f 11).toInt + 1 ∧ ((f 12).toInt ≠ 0 → (f' 11).toInt = (f 11).toInt))) 0 0 (zA K) := by
  refine zin (by decide) (Nat.le_of_ble_eq_true rfl) ?_
  intro p e s m args below meth c ls Q hQ C hr hlk hP hs hl
  have C : CallFix p m c cX12_body 2 s args zw RX12 := C
  obtain ⟨hx, hb, hml, hown, hts⟩ := id C
  have hO := hM.1
  have hS : va_S (zA K) s.heap s.heap [] := va_S.rf
  have FA : ∀ k, k ∉ ([50] : List Nat) → A k = A k := fun _ _ => rfl
  have FF : ∀ k, k ∉ ([11] : List Nat) → f k = f k := fun _ _ => rfl
  have hl : lv_has ls 2 [(0, .ref a0), (1, .int x1)] := hl
  refine lv_aload_n hx hb dX12_body_0 rfl (lv_at hl 0 rfl) ?_
  refine mg_12 C hs hP ha0 hk0 wf_X12_78 dX12_body_1 ?_
  have hb_1 : f 12 = 0 ∨ f 12 = 1 := z_b01 (hT.1 12)
  have tf_2 : 0 ≤ (f 12).toInt ∧ (f 12).toInt ≤ 1 := hT.1 12
  refine bz_eq (tgt := 8) hx hb rfl dX12_body_4 (by decide) (fun c_3 => ?_) (fun c_3 => ?_)
  · skip
    refine lv_aload_n hx hb dX12_body_8 rfl (lv_at hl 0 rfl) ?_
    refine mg_10 C hs hP ha0 hk0 wf_X12_33 dX12_body_9 ?_
    have hf_4 := hO.r (j := 10) ha0 hk0 (rfl : zX 11 10 = some (50, 60))
    refine lv_aload_n hx hb dX12_body_12 rfl (lv_at hl 0 rfl) ?_
    refine mg_11 C hs hP ha0 hk0 wf_X12_82 dX12_body_13 ?_
    have tf_5 : 0 ≤ (f 11).toInt := hT.1 11
    refine lv_bipush (v := 60) hx hb dX12_body_16 (by decide) ?_
    refine lv_irem hx hb dX12_body_18 (by decide) ?_
    refine lv_topi (fun x_6 ex_6 => ?_)
    refine lv_iload_n hx hb dX12_body_19 rfl (lv_at hl 1 rfl) ?_
    have g_8 := z_rng (f 11)
    have f_6 := z_rem ex_6 rfl ti_60 (by decide)
    have hin_7 : vp_in x_6 (zn K (zr K a0 10)) := vp_in_iff.mpr (by rw [(hf_4.2.2 (by decide))]; refine ⟨?_, ?_⟩ <;> omega)
    refine mst_50 C hM hs hP hS hf_4.1 hT hf_4.2.1 hin_7 trivial dX12_body_20 (fun A_9 H locs hE_9 hT hP hS => ?_)
    have FA := frA FA (frAu hE_9) (by decide)
    refine lv_aload_n hx hb dX12_body_21 rfl (lv_at hl 0 rfl) ?_
    refine lv_dup hx hb dX12_body_22 rfl ?_
    refine mg_11 C hs hP ha0 hk0 wf_X12_82 dX12_body_23 ?_
    refine lv_iconst (v := 1) hx hb dX12_body_26 (by decide) ?_
    refine lv_iadd hx hb dX12_body_27 ?_
    refine lv_topi (fun x_10 ex_10 => ?_)
    obtain ⟨f_10, l_10, u_10⟩ := z_add ex_10 rfl ti_1
    try replace f_10 : x_10.toInt = (f 11).toInt + 1 := by omega
    clear l_10 u_10
    refine mp_11 C hM hs hP hS ha0 hT hk0 wf_X12_82 (show 0 ≤ x_10.toInt from by omega) dX12_body_28 (fun f_11 H locs hE_11 hT hP hS => ?_)
    have FF := frF FF (frFu hE_11) (by decide)
    have ev_12 : f_11 11 = x_10 := by rw [hE_11, pk_us]
    exact maV hQ hx hb hr hlk hP hS ⟨hT, FA, FF, (by (try dsimp only); rw [ev_12] <;> (first | omega | (intro h9; omega) | (simp; done) | (refine ⟨?_, ?_⟩ <;> intros <;> first | trivial | omega) | (refine ⟨?_, ?_, ?_⟩ <;> intros <;> first | trivial | omega)))⟩ dX12_body_31
  · skip
    exact maV hQ hx hb hr hlk hP hS ⟨hT, FA, FF, (by (try dsimp only); (first | omega | (intro h9; omega) | (simp; done) | (refine ⟨?_, ?_⟩ <;> intros <;> first | trivial | omega) | (refine ⟨?_, ?_, ?_⟩ <;> intros <;> first | trivial | omega)))⟩ dX12_body_7
set_option maxHeartbeats 4000000 in
set_option maxRecDepth 100000 in
theorem c_X12_find (l : Launch) (D : va_G) (K : zK) (hM : mK K) (f : Nat → Int32) (A : Nat → Nat → Int32) (hT : mT f A) (a0 : Nat) (ha0 : a0 ∈ zl K) (hk0 : zk K a0 = 11) (x1 : Int32) (x2 : Int32) (x3 : Int32) (x4 : Int32) (hp0 : (f 9).toInt ≤ 2000000000) : Met l yX12_find (zc yX12_find cX12_find 6 none) (rmd 0) (va_Pc [.ref a0, .int x1, .int x2, .int x3, .int x4] (zB D K (mV K f A))) (mQv D K (fun f' A' => mT f' A' ∧ (∀ k, k ∉ ([48] : List Nat) → A' k = A k) ∧ (∀ k, k ∉ ([9] : List Nat) → f' k = f k) ∧ (f 9).toInt ≤ (f' 9).toInt ∧ (f' 9).toInt ≤ (f 9).toInt + 1)) 0 0 (zA K) := by
  refine zin (by decide) (Nat.le_of_ble_eq_true rfl) ?_
  intro p e s m args below meth c ls Q hQ C hr hlk hP hs hl
  have C : CallFix p m c cX12_find 6 s args zw RX12 := C
  obtain ⟨hx, hb, hml, hown, hts⟩ := id C
  have hO := hM.1
  have hS : va_S (zA K) s.heap s.heap [] := va_S.rf
  have FA : ∀ k, k ∉ ([48] : List Nat) → A k = A k := fun _ _ => rfl
  have FF : ∀ k, k ∉ ([9] : List Nat) → f k = f k := fun _ _ => rfl
  have hl : lv_has ls 6 [(0, .ref a0), (1, .int x1), (2, .int x2), (3, .int x3), (4, .int x4)] := hl
  refine lv_aload_n hx hb dX12_find_0 rfl (lv_at hl 0 rfl) ?_
  refine mg_12 C hs hP ha0 hk0 wf_X12_78 dX12_find_1 ?_
  have hb_1 : f 12 = 0 ∨ f 12 = 1 := z_b01 (hT.1 12)
  have tf_2 : 0 ≤ (f 12).toInt ∧ (f 12).toInt ≤ 1 := hT.1 12
  refine bz_eq (tgt := 8) hx hb rfl dX12_find_4 (by decide) (fun c_3 => ?_) (fun c_3 => ?_)
  · skip
    refine lv_iconst (v := 5) hx hb dX12_find_8 (by decide) ?_
    refine lv_aload_n hx hb dX12_find_9 rfl (lv_at hl 0 rfl) ?_
    refine mg_9 C hs hP ha0 hk0 wf_X12_85 dX12_find_10 ?_
    have tf_4 : 0 ≤ (f 9).toInt := hT.1 9
    refine lv_bipush (v := 60) hx hb dX12_find_13 (by decide) ?_
    refine lv_irem hx hb dX12_find_15 (by decide) ?_
    refine lv_topi (fun x_5 ex_5 => ?_)
    refine lv_imul hx hb dX12_find_16 ?_
    refine lv_topi (fun x_6 ex_6 => ?_)
    refine lv_istore (lv' := [(5, .int x_6), (0, .ref a0), (1, .int x1), (2, .int x2), (3, .int x3), (4, .int x4)]) hx hb dX12_find_17 hl (by decide) rfl (fun ls hl => ?_)
    refine lv_aload_n hx hb dX12_find_19 rfl (lv_at hl 1 rfl) ?_
    refine mg_8 C hs hP ha0 hk0 wf_X12_30 dX12_find_20 ?_
    have hf_7 := hO.r (j := 8) ha0 hk0 (rfl : zX 11 8 = some (48, 300))
    refine lv_iload hx hb dX12_find_23 (lv_at hl 0 rfl) ?_
    refine lv_iload_n hx hb dX12_find_25 rfl (lv_at hl 2 rfl) ?_
    have g_9 := z_rng (f 9)
    have f_5 := z_rem ex_5 rfl ti_60 (by decide)
    obtain ⟨f_6, l_6, u_6⟩ := z_mul ex_6 ti_5 rfl
    try replace f_6 : x_6.toInt = 5 * x_5.toInt := by omega
    clear l_6 u_6
    have hin_8 : vp_in x_6 (zn K (zr K a0 8)) := vp_in_iff.mpr (by rw [(hf_7.2.2 (by decide))]; refine ⟨?_, ?_⟩ <;> omega)
    refine mst_48 C hM hs hP hS hf_7.1 hT hf_7.2.1 hin_8 trivial dX12_find_26 (fun A_10 H locs hE_10 hT hP hS => ?_)
    have FA := frA FA (frAu hE_10) (by decide)
    refine lv_aload_n hx hb dX12_find_27 rfl (lv_at hl 1 rfl) ?_
    refine mg_8 C hs hP ha0 hk0 wf_X12_30 dX12_find_28 ?_
    refine lv_iload hx hb dX12_find_31 (lv_at hl 0 rfl) ?_
    refine lv_iconst (v := 1) hx hb dX12_find_33 (by decide) ?_
    refine lv_iadd hx hb dX12_find_34 ?_
    refine lv_topi (fun x_11 ex_11 => ?_)
    refine lv_iload_n hx hb dX12_find_35 rfl (lv_at hl 3 rfl) ?_
    obtain ⟨f_11, l_11, u_11⟩ := z_add ex_11 rfl ti_1
    try replace f_11 : x_11.toInt = x_6.toInt + 1 := by omega
    clear l_11 u_11
    have hin_12 : vp_in x_11 (zn K (zr K a0 8)) := vp_in_iff.mpr (by rw [(hf_7.2.2 (by decide))]; refine ⟨?_, ?_⟩ <;> omega)
    refine mst_48 C hM hs hP hS hf_7.1 hT hf_7.2.1 hin_12 trivial dX12_find_36 (fun A_13 H locs hE_13 hT hP hS => ?_)
    have FA := frA FA (frAu hE_13) (by decide)
    refine lv_aload_n hx hb dX12_find_37 rfl (lv_at hl 1 rfl) ?_
    refine mg_8 C hs hP ha0 hk0 wf_X12_30 dX12_find_38 ?_
    refine lv_iload hx hb dX12_find_41 (lv_at hl 0 rfl) ?_
    refine lv_iconst (v := 2) hx hb dX12_find_43 (by decide) ?_
    refine lv_iadd hx hb dX12_find_44 ?_
    refine lv_topi (fun x_14 ex_14 => ?_)
    refine lv_iload_n hx hb dX12_find_45 rfl (lv_at hl 4 rfl) ?_
    obtain ⟨f_14, l_14, u_14⟩ := z_add ex_14 rfl ti_2
    try replace f_14 : x_14.toInt = x_6.toInt + 2 := by omega
    clear l_14 u_14
    have hin_15 : vp_in x_14 (zn K (zr K a0 8)) := vp_in_iff.mpr (by rw [(hf_7.2.2 (by decide))]; refine ⟨?_, ?_⟩ <;> omega)
    refine mst_48 C hM hs hP hS hf_7.1 hT hf_7.2.1 hin_15 trivial dX12_find_46 (fun A_16 H locs hE_16 hT hP hS => ?_)
    have FA := frA FA (frAu hE_16) (by decide)
    refine lv_aload_n hx hb dX12_find_47 rfl (lv_at hl 1 rfl) ?_
    refine mg_8 C hs hP ha0 hk0 wf_X12_30 dX12_find_48 ?_
    refine lv_iload hx hb dX12_find_51 (lv_at hl 0 rfl) ?_
    refine lv_iconst (v := 3) hx hb dX12_find_53 (by decide) ?_
    refine lv_iadd hx hb dX12_find_54 ?_
    refine lv_topi (fun x_17 ex_17 => ?_)
    refine lv_iload hx hb dX12_find_55 (lv_at hl 5 rfl) ?_
    obtain ⟨f_17, l_17, u_17⟩ := z_add ex_17 rfl ti_3
    try replace f_17 : x_17.toInt = x_6.toInt + 3 := by omega
    clear l_17 u_17
    have hin_18 : vp_in x_17 (zn K (zr K a0 8)) := vp_in_iff.mpr (by rw [(hf_7.2.2 (by decide))]; refine ⟨?_, ?_⟩ <;> omega)
    refine mst_48 C hM hs hP hS hf_7.1 hT hf_7.2.1 hin_18 trivial dX12_find_57 (fun A_19 H locs hE_19 hT hP hS => ?_)
    have FA := frA FA (frAu hE_19) (by decide)
    refine lv_aload_n hx hb dX12_find_58 rfl (lv_at hl 1 rfl) ?_
    refine mg_8 C hs hP ha0 hk0 wf_X12_30 dX12_find_59 ?_
    refine lv_iload hx hb dX12_find_62 (lv_at hl 0 rfl) ?_
    refine lv_iconst (v := 4) hx hb dX12_find_64 (by decide) ?_
    refine lv_iadd hx hb dX12_find_65 ?_
    refine lv_topi (fun x_20 ex_20 => ?_)
    refine lv_aload_n hx hb dX12_find_66 rfl (lv_at hl 1 rfl) ?_
    refine mg_7 C hs hP ha0 hk0 wf_X12_88 dX12_find_67 ?_
    obtain ⟨f_20, l_20, u_20⟩ := z_add ex_20 rfl ti_4
    try replace f_20 : x_20.toInt = x_6.toInt + 4 := by omega
    clear l_20 u_20
    have hin_21 : vp_in x_20 (zn K (zr K a0 8)) := vp_in_iff.mpr (by rw [(hf_7.2.2 (by decide))]; refine ⟨?_, ?_⟩ <;> omega)
    refine mst_48 C hM hs hP hS hf_7.1 hT hf_7.2.1 hin_21 trivial dX12_find_70 (fun A_22 H locs hE_22 hT hP hS => ?_)
    have FA := frA FA (frAu hE_22) (by decide)
    refine lv_aload_n hx hb dX12_find_71 rfl (lv_at hl 1 rfl) ?_
    refine lv_dup hx hb dX12_find_72 rfl ?_
    refine mg_9 C hs hP ha0 hk0 wf_X12_85 dX12_find_73 ?_
    refine lv_iconst (v := 1) hx hb dX12_find_76 (by decide) ?_
    refine lv_iadd hx hb dX12_find_77 ?_
    refine lv_topi (fun x_23 ex_23 => ?_)
    obtain ⟨f_23, l_23, u_23⟩ := z_add ex_23 rfl ti_1
    try replace f_23 : x_23.toInt = (f 9).toInt + 1 := by omega
    clear l_23 u_23
    refine mp_9 C hM hs hP hS ha0 hT hk0 wf_X12_85 (show 0 ≤ x_23.toInt from by omega) dX12_find_78 (fun f_24 H locs hE_24 hT hP hS => ?_)
    have FF := frF FF (frFu hE_24) (by decide)
    have ev_25 : f_24 9 = x_23 := by rw [hE_24, pk_us]
    exact maV hQ hx hb hr hlk hP hS ⟨hT, FA, FF, (by (try dsimp only); rw [ev_25] <;> (first | omega | (intro h9; omega) | (simp; done) | (refine ⟨?_, ?_⟩ <;> intros <;> first | trivial | omega) | (refine ⟨?_, ?_, ?_⟩ <;> intros <;> first | trivial | omega)))⟩ dX12_find_81
  · skip
    exact maV hQ hx hb hr hlk hP hS ⟨hT, FA, FF, (by (try dsimp only); (first | omega | (intro h9; omega) | (simp; done) | (refine ⟨?_, ?_⟩ <;> intros <;> first | trivial | omega) | (refine ⟨?_, ?_, ?_⟩ <;> intros <;> first | trivial | omega)))⟩ dX12_find_7
set_option maxHeartbeats 4000000 in
set_option maxRecDepth 100000 in
theorem c_X12_isTable (l : Launch) (D : va_G) (K : zK) (hM : mK K) (f : Nat → Int32) (A : Nat → Nat → Int32) (hT : mT f A) (a0 : Nat) (ha0 : a0 ∈ zl K) (hk0 : zk K a0 = 11) (x1 : Int32) : Met l yX12_isTable (zc yX12_isTable cX12_isTable 2 (some .boolean)) (rmd 1) (va_Pc [.ref a0, .int x1] (zB D K (mV K f A))) (vp_Si (fun r => (r = 0 ∨ r = 1) ∧ (r.toInt ≠ 0 → 0 ≤ x1.toInt ∧ x1.toInt ≤ 3))) 0 0 (fun _ => False) := by
  refine zin (by decide) (Nat.le_of_ble_eq_true rfl) ?_
  intro p e s m args below meth c ls Q hQ C hr hlk hP hs hl
  have C : CallFix p m c cX12_isTable 2 s args zw RX12 := C
  obtain ⟨hx, hb, hml, hown, hts⟩ := id C
  have hO := hM.1
  have hS : va_S (zA K) s.heap s.heap [] := va_S.rf
  have hl : lv_has ls 2 [(0, .ref a0), (1, .int x1)] := hl
  refine lv_iload_n hx hb dX12_isTable_0 rfl (lv_at hl 1 rfl) ?_
  refine lv_iconst (v := 0) hx hb dX12_isTable_1 (by decide) ?_
  refine lv_iconst (v := 3) hx hb dX12_isTable_2 (by decide) ?_
  refine zcS (zrS (As := [.int x1, .int 0, .int 3]) (rest := []) C hs hP hS (c_X12_in l D K hM f A hT x1 0 3) m_X12_in wm_X12_91 ⟨by decide, by decide⟩ hl.1 (Nat.le_of_ble_eq_true rfl) dX12_isTable_3) (fun x_1 p_1 => ?_)
  have pp_1 : (x_1.toInt ≠ 0 → (0 : Int32).toInt ≤ x1.toInt ∧ x1.toInt ≤ (3 : Int32).toInt) ∧ (x_1.toInt = 0 → x1.toInt < (0 : Int32).toInt ∨ (3 : Int32).toInt < x1.toInt) := p_1.2
  try simp only [ti_0, ti_3] at pp_1
  have g_2 := z_rng x1
  refine bz_eq (tgt := 22) hx hb rfl dX12_isTable_6 (by decide) (fun c_3 => ?_) (fun c_3 => ?_)
  · skip
    replace pp_1 := pp_1.2 c_3
    refine lv_iconst (v := 0) hx hb dX12_isTable_22 (by decide) ?_
    exact zaSz hQ hx hb hr hlk (Or.inl rfl) ⟨(Or.inl rfl), (by (try dsimp only); (try simp only [ti_0]); (first | omega | (intro h9; omega) | (simp; done) | (refine ⟨?_, ?_⟩ <;> intros <;> first | trivial | omega) | (refine ⟨?_, ?_, ?_⟩ <;> intros <;> first | trivial | omega)))⟩ dX12_isTable_23
  · skip
    replace pp_1 := pp_1.1 c_3
    refine lv_aload_n hx hb dX12_isTable_9 rfl (lv_at hl 0 rfl) ?_
    refine mg_1 C hs hP ha0 hk0 wf_X12_14 dX12_isTable_10 ?_
    have hf_4 := hO.r (j := 1) ha0 hk0 (rfl : zX 11 1 = some (41, 4))
    refine lv_iload_n hx hb dX12_isTable_13 rfl (lv_at hl 1 rfl) ?_
    have hin_5 : vp_in x1 (zn K (zr K a0 1)) := vp_in_iff.mpr (by rw [(hf_4.2.2 (by decide))]; refine ⟨?_, ?_⟩ <;> omega)
    refine mld_41 C hs hP hf_4.1 hf_4.2.1 hin_5 dX12_isTable_14 ?_
    have tv_6 := ra_41 hT (vp_in_iff.mp hin_5).1 (by have h7 := (vp_in_iff.mp hin_5).2; rw [(hf_4.2.2 (by decide))] at h7; exact h7)
    refine bz_eq (tgt := 22) hx hb rfl dX12_isTable_15 (by decide) (fun c_7 => ?_) (fun c_7 => ?_)
    · skip
      refine lv_iconst (v := 0) hx hb dX12_isTable_22 (by decide) ?_
      exact zaSz hQ hx hb hr hlk (Or.inl rfl) ⟨(Or.inl rfl), (by (try dsimp only); (try simp only [ti_0]); (first | omega | (intro h9; omega) | (simp; done) | (refine ⟨?_, ?_⟩ <;> intros <;> first | trivial | omega) | (refine ⟨?_, ?_, ?_⟩ <;> intros <;> first | trivial | omega)))⟩ dX12_isTable_23
    · skip
      refine lv_iconst (v := 1) hx hb dX12_isTable_18 (by decide) ?_
      refine lv_goto (tgt := 23) hx hb dX12_isTable_19 (by decide) ?_
      exact zaSz hQ hx hb hr hlk (Or.inr rfl) ⟨(Or.inr rfl), (by (try dsimp only); (try simp only [ti_1]); (first | omega | (intro h9; omega) | (simp; done) | (refine ⟨?_, ?_⟩ <;> intros <;> first | trivial | omega) | (refine ⟨?_, ?_, ?_⟩ <;> intros <;> first | trivial | omega)))⟩ dX12_isTable_23
set_option maxHeartbeats 4000000 in
set_option maxRecDepth 100000 in
theorem c_X12_isSeat (l : Launch) (D : va_G) (K : zK) (hM : mK K) (f : Nat → Int32) (A : Nat → Nat → Int32) (hT : mT f A) (x0 : Int32) : Met l yX12_isSeat (zc yX12_isSeat cX12_isSeat 1 (some .boolean)) (rmd 1) (va_Pc [.int x0] (zB D K (mV K f A))) (vp_Si (fun r => (r = 0 ∨ r = 1) ∧ (r.toInt ≠ 0 → 0 ≤ x0.toInt ∧ x0.toInt ≤ 3) ∧ (r.toInt = 0 → x0.toInt < 0 ∨ 3 < x0.toInt))) 0 0 (fun _ => False) := by
  refine zin (by decide) (Nat.le_of_ble_eq_true rfl) ?_
  intro p e s m args below meth c ls Q hQ C hr hlk hP hs hl
  have C : CallFix p m c cX12_isSeat 1 s args zw RX12 := C
  obtain ⟨hx, hb, hml, hown, hts⟩ := id C
  have hO := hM.1
  have hS : va_S (zA K) s.heap s.heap [] := va_S.rf
  have hl : lv_has ls 1 [(0, .int x0)] := hl
  refine lv_iload_n hx hb dX12_isSeat_0 rfl (lv_at hl 0 rfl) ?_
  refine lv_iconst (v := 0) hx hb dX12_isSeat_1 (by decide) ?_
  refine lv_iconst (v := 3) hx hb dX12_isSeat_2 (by decide) ?_
  refine zcS (zrS (As := [.int x0, .int 0, .int 3]) (rest := []) C hs hP hS (c_X12_in l D K hM f A hT x0 0 3) m_X12_in wm_X12_91 ⟨by decide, by decide⟩ hl.1 (Nat.le_of_ble_eq_true rfl) dX12_isSeat_3) (fun x_1 p_1 => ?_)
  have pp_1 : (x_1.toInt ≠ 0 → (0 : Int32).toInt ≤ x0.toInt ∧ x0.toInt ≤ (3 : Int32).toInt) ∧ (x_1.toInt = 0 → x0.toInt < (0 : Int32).toInt ∨ (3 : Int32).toInt < x0.toInt) := p_1.2
  try simp only [ti_0, ti_3] at pp_1
  have g_2 := z_rng x0
  have g_3 := z_rng x_1
  exact zaSz hQ hx hb hr hlk p_1.1 ⟨p_1.1, (by (try dsimp only); (first | omega | (intro h9; omega) | (simp; done) | (refine ⟨?_, ?_⟩ <;> intros <;> first | trivial | omega) | (refine ⟨?_, ?_, ?_⟩ <;> intros <;> first | trivial | omega)))⟩ dX12_isSeat_6
set_option maxHeartbeats 4000000 in
set_option maxRecDepth 100000 in
theorem c_X12_isCard (l : Launch) (D : va_G) (K : zK) (hM : mK K) (f : Nat → Int32) (A : Nat → Nat → Int32) (hT : mT f A) (a0 : Nat) (ha0 : a0 ∈ zl K) (hk0 : zk K a0 = 11) (x1 : Int32) (x2 : Int32) (hp0 : 0 ≤ x1.toInt ∧ x1.toInt ≤ 3) : Met l yX12_isCard (zc yX12_isCard cX12_isCard 3 (some .boolean)) (rmd 1) (va_Pc [.ref a0, .int x1, .int x2] (zB D K (mV K f A))) (vp_Si (fun r => (r = 0 ∨ r = 1) ∧ (r.toInt ≠ 0 → 0 ≤ x2.toInt ∧ x2.toInt ≤ 59))) 0 0 (fun _ => False) := by
  refine zin (by decide) (Nat.le_of_ble_eq_true rfl) ?_
  intro p e s m args below meth c ls Q hQ C hr hlk hP hs hl
  have C : CallFix p m c cX12_isCard 3 s args zw RX12 := C
  obtain ⟨hx, hb, hml, hown, hts⟩ := id C
  have hO := hM.1
  have hS : va_S (zA K) s.heap s.heap [] := va_S.rf
  have hl : lv_has ls 3 [(0, .ref a0), (1, .int x1), (2, .int x2)] := hl
  refine lv_iload_n hx hb dX12_isCard_0 rfl (lv_at hl 2 rfl) ?_
  refine lv_iconst (v := 0) hx hb dX12_isCard_1 (by decide) ?_
  refine lv_aload_n hx hb dX12_isCard_2 rfl (lv_at hl 0 rfl) ?_
  refine mg_0 C hs hP ha0 hk0 wf_X12_8 dX12_isCard_3 ?_
  have hf_1 := hO.r (j := 0) ha0 hk0 (rfl : zX 11 0 = some (40, 47730))
  refine lv_sipush (v := 1290) hx hb dX12_isCard_6 (by decide) ?_
  refine lv_iload_n hx hb dX12_isCard_9 rfl (lv_at hl 1 rfl) ?_
  refine lv_imul hx hb dX12_isCard_10 ?_
  refine lv_topi (fun x_2 ex_2 => ?_)
  refine lv_iconst (v := 1) hx hb dX12_isCard_11 (by decide) ?_
  refine lv_iadd hx hb dX12_isCard_12 ?_
  refine lv_topi (fun x_3 ex_3 => ?_)
  have g_6 := z_rng x1
  obtain ⟨f_2, l_2, u_2⟩ := z_mul ex_2 ti_1290 rfl
  try replace f_2 : x_2.toInt = 1290 * x1.toInt := by omega
  clear l_2 u_2
  have hbs_5 : zRow x_2.toInt := zRow.of (t := x1.toInt) (by omega) (by omega)
  have hbl_hbs_5 := hbs_5.lin
  have hi_hr_4 : zEq x_3.toInt (x_2.toInt + 1) := by
    obtain ⟨f_3, l_3, u_3⟩ := z_add ex_3 rfl ti_1
    try replace f_3 : x_3.toInt = x_2.toInt + 1 := by omega
    clear l_3 u_3
    show x_3.toInt = (x_2.toInt + 1)
    omega
  have hl_hr_4 : (1 : Int) ≤ 1 ∧ 1 ≤ (1 : Int) := by decide
  have hid_hr_4 : (x_2.toInt + 1) = x_2.toInt + (1) := by simp only [Int.add_assoc, Int.add_sub_assoc]
  have hr_4 := z_cell (lo := 1) (hi := 1) hbs_5 hi_hr_4 hid_hr_4 hl_hr_4 (by decide)
  replace hid_hr_4 : zEq (x_2.toInt + 1) (x_2.toInt + (1)) := hid_hr_4
  have hin_7 : vp_in x_3 (zn K (zr K a0 0)) := vp_in_iff.mpr (by rw [(hf_1.2.2 (by decide))]; exact hr_4.in)
  refine mld_40 C hs hP hf_1.1 hf_1.2.1 hin_7 dX12_isCard_13 ?_
  have ep_8 : x_3.toNatClampNeg = (x_2.toInt + 1).toNat := z_posE hi_hr_4
  rw [ep_8]
  have tv_9 := rv_1 hT hr_4
  rw [ep_8] at tv_9
  refine lv_iconst (v := 1) hx hb dX12_isCard_14 (by decide) ?_
  refine lv_isub hx hb dX12_isCard_15 ?_
  refine lv_topi (fun x_10 ex_10 => ?_)
  refine zcS (zrS (As := [.int x2, .int 0, .int x_10]) (rest := []) C hs hP hS (c_X12_in l D K hM f A hT x2 0 x_10) m_X12_in wm_X12_91 ⟨by decide, by decide⟩ hl.1 (Nat.le_of_ble_eq_true rfl) dX12_isCard_16) (fun x_11 p_11 => ?_)
  have pp_11 : (x_11.toInt ≠ 0 → (0 : Int32).toInt ≤ x2.toInt ∧ x2.toInt ≤ x_10.toInt) ∧ (x_11.toInt = 0 → x2.toInt < (0 : Int32).toInt ∨ x_10.toInt < x2.toInt) := p_11.2
  try simp only [ti_0] at pp_11
  have g_12 := z_rng x2
  have g_13 := z_rng (A 40 (x_2.toInt + 1).toNat)
  obtain ⟨f_10, l_10, u_10⟩ := z_sub ex_10 rfl ti_1
  try replace f_10 : x_10.toInt = (A 40 (x_2.toInt + 1).toNat).toInt - 1 := by omega
  clear l_10 u_10
  have g_14 := z_rng x_11
  exact zaSz hQ hx hb hr hlk p_11.1 ⟨p_11.1, (by (try dsimp only); (first | omega | (intro h9; omega) | (simp; done) | (refine ⟨?_, ?_⟩ <;> intros <;> first | trivial | omega) | (refine ⟨?_, ?_, ?_⟩ <;> intros <;> first | trivial | omega)))⟩ dX12_isCard_19
set_option maxHeartbeats 4000000 in
set_option maxRecDepth 100000 in
theorem c_X12_isGame (l : Launch) (D : va_G) (K : zK) (hM : mK K) (f : Nat → Int32) (A : Nat → Nat → Int32) (hT : mT f A) (a0 : Nat) (ha0 : a0 ∈ zl K) (hk0 : zk K a0 = 11) (x1 : Int32) : Met l yX12_isGame (zc yX12_isGame cX12_isGame 2 (some .boolean)) (rmd 1) (va_Pc [.ref a0, .int x1] (zB D K (mV K f A))) (vp_Si (fun r => (r = 0 ∨ r = 1) ∧ (r.toInt ≠ 0 → 0 ≤ x1.toInt ∧ x1.toInt ≤ 5))) 0 0 (fun _ => False) := by
  refine zin (by decide) (Nat.le_of_ble_eq_true rfl) ?_
  intro p e s m args below meth c ls Q hQ C hr hlk hP hs hl
  have C : CallFix p m c cX12_isGame 2 s args zw RX12 := C
  obtain ⟨hx, hb, hml, hown, hts⟩ := id C
  have hO := hM.1
  have hS : va_S (zA K) s.heap s.heap [] := va_S.rf
  have hl : lv_has ls 2 [(0, .ref a0), (1, .int x1)] := hl
  refine lv_iload_n hx hb dX12_isGame_0 rfl (lv_at hl 1 rfl) ?_
  refine lv_iconst (v := 0) hx hb dX12_isGame_1 (by decide) ?_
  refine lv_iconst (v := 5) hx hb dX12_isGame_2 (by decide) ?_
  refine zcS (zrS (As := [.int x1, .int 0, .int 5]) (rest := []) C hs hP hS (c_X12_in l D K hM f A hT x1 0 5) m_X12_in wm_X12_91 ⟨by decide, by decide⟩ hl.1 (Nat.le_of_ble_eq_true rfl) dX12_isGame_3) (fun x_1 p_1 => ?_)
  have pp_1 : (x_1.toInt ≠ 0 → (0 : Int32).toInt ≤ x1.toInt ∧ x1.toInt ≤ (5 : Int32).toInt) ∧ (x_1.toInt = 0 → x1.toInt < (0 : Int32).toInt ∨ (5 : Int32).toInt < x1.toInt) := p_1.2
  try simp only [ti_0, ti_5] at pp_1
  have g_2 := z_rng x1
  refine bz_eq (tgt := 23) hx hb rfl dX12_isGame_6 (by decide) (fun c_3 => ?_) (fun c_3 => ?_)
  · skip
    replace pp_1 := pp_1.2 c_3
    refine lv_iconst (v := 0) hx hb dX12_isGame_23 (by decide) ?_
    exact zaSz hQ hx hb hr hlk (Or.inl rfl) ⟨(Or.inl rfl), (by (try dsimp only); (try simp only [ti_0]); (first | omega | (intro h9; omega) | (simp; done) | (refine ⟨?_, ?_⟩ <;> intros <;> first | trivial | omega) | (refine ⟨?_, ?_, ?_⟩ <;> intros <;> first | trivial | omega)))⟩ dX12_isGame_24
  · skip
    replace pp_1 := pp_1.1 c_3
    refine lv_aload_n hx hb dX12_isGame_9 rfl (lv_at hl 0 rfl) ?_
    refine mg_3 C hs hP ha0 hk0 wf_X12_21 dX12_isGame_10 ?_
    have hf_4 := hO.r (j := 3) ha0 hk0 (rfl : zX 11 3 = some (43, 6))
    refine lv_iload_n hx hb dX12_isGame_13 rfl (lv_at hl 1 rfl) ?_
    have hin_5 : vp_in x1 (zn K (zr K a0 3)) := vp_in_iff.mpr (by rw [(hf_4.2.2 (by decide))]; refine ⟨?_, ?_⟩ <;> omega)
    refine mld_43 C hs hP hf_4.1 hf_4.2.1 hin_5 dX12_isGame_14 ?_
    refine lv_iconst (v := (-1)) hx hb dX12_isGame_15 (by decide) ?_
    refine bi_eq (tgt := 23) hx hb rfl ti_m1 dX12_isGame_16 (by decide) (fun c_6 => ?_) (fun c_6 => ?_)
    · skip
      refine lv_iconst (v := 0) hx hb dX12_isGame_23 (by decide) ?_
      exact zaSz hQ hx hb hr hlk (Or.inl rfl) ⟨(Or.inl rfl), (by (try dsimp only); (try simp only [ti_0]); (first | omega | (intro h9; omega) | (simp; done) | (refine ⟨?_, ?_⟩ <;> intros <;> first | trivial | omega) | (refine ⟨?_, ?_, ?_⟩ <;> intros <;> first | trivial | omega)))⟩ dX12_isGame_24
    · skip
      refine lv_iconst (v := 1) hx hb dX12_isGame_19 (by decide) ?_
      refine lv_goto (tgt := 24) hx hb dX12_isGame_20 (by decide) ?_
      exact zaSz hQ hx hb hr hlk (Or.inr rfl) ⟨(Or.inr rfl), (by (try dsimp only); (try simp only [ti_1]); (first | omega | (intro h9; omega) | (simp; done) | (refine ⟨?_, ?_⟩ <;> intros <;> first | trivial | omega) | (refine ⟨?_, ?_, ?_⟩ <;> intros <;> first | trivial | omega)))⟩ dX12_isGame_24
set_option maxHeartbeats 4000000 in
set_option maxRecDepth 100000 in
theorem c_X12_colour (l : Launch) (D : va_G) (K : zK) (hM : mK K) (f : Nat → Int32) (A : Nat → Nat → Int32) (hT : mT f A) (a0 : Nat) (ha0 : a0 ∈ zl K) (hk0 : zk K a0 = 11) (x1 : Int32) (x2 : Int32) (hp0 : zRow x1.toInt) (hp1 : 0 ≤ x2.toInt ∧ x2.toInt ≤ 59) : Met l yX12_colour (zc yX12_colour cX12_colour 4 (some .int)) (rmd 0) (va_Pc [.ref a0, .int x1, .int x2] (zB D K (mV K f A))) (vp_Si (fun r => r = mcol (A 40) x1 x2)) 0 0 (fun _ => False) := by
  refine zin (by decide) (Nat.le_of_ble_eq_true rfl) ?_
  intro p e s m args below meth c ls Q hQ C hr hlk hP hs hl
  have C : CallFix p m c cX12_colour 4 s args zw RX12 := C
  obtain ⟨hx, hb, hml, hown, hts⟩ := id C
  have hO := hM.1
  have hS : va_S (zA K) s.heap s.heap [] := va_S.rf
  have hl : lv_has ls 4 [(0, .ref a0), (1, .int x1), (2, .int x2)] := hl
  have hb0 := hp0.lin
  refine lv_aload_n hx hb dX12_colour_0 rfl (lv_at hl 0 rfl) ?_
  refine mg_0 C hs hP ha0 hk0 wf_X12_8 dX12_colour_1 ?_
  have hf_1 := hO.r (j := 0) ha0 hk0 (rfl : zX 11 0 = some (40, 47730))
  refine lv_iload_n hx hb dX12_colour_4 rfl (lv_at hl 1 rfl) ?_
  refine lv_bipush (v := 50) hx hb dX12_colour_5 (by decide) ?_
  refine lv_iadd hx hb dX12_colour_7 ?_
  refine lv_topi (fun x_2 ex_2 => ?_)
  refine lv_iload_n hx hb dX12_colour_8 rfl (lv_at hl 2 rfl) ?_
  refine lv_iadd hx hb dX12_colour_9 ?_
  refine lv_topi (fun x_3 ex_3 => ?_)
  have hi_hr_4 : zEq x_3.toInt (x1.toInt + x2.toInt + 50) := by
    have g_5 := z_rng x1
    obtain ⟨f_2, l_2, u_2⟩ := z_add ex_2 rfl ti_50
    try replace f_2 : x_2.toInt = x1.toInt + 50 := by omega
    clear l_2 u_2
    have g_6 := z_rng x2
    obtain ⟨f_3, l_3, u_3⟩ := z_add ex_3 rfl rfl
    try replace f_3 : x_3.toInt = x_2.toInt + x2.toInt := by omega
    clear l_3 u_3
    show x_3.toInt = (x1.toInt + x2.toInt + 50)
    omega
  have hl_hr_4 : 50 ≤ x2.toInt + 50 ∧ x2.toInt + 50 ≤ 109 := by
    have g_7 := z_rng x1
    have g_8 := z_rng x2
    omega
  have hid_hr_4 : (x1.toInt + x2.toInt + 50) = x1.toInt + (x2.toInt + 50) := by simp only [Int.add_assoc, Int.add_sub_assoc]
  have hr_4 := z_cell (lo := 45) (hi := 169) hp0 hi_hr_4 hid_hr_4 hl_hr_4 (by decide)
  replace hid_hr_4 : zEq (x1.toInt + x2.toInt + 50) (x1.toInt + (x2.toInt + 50)) := hid_hr_4
  have hin_9 : vp_in x_3 (zn K (zr K a0 0)) := vp_in_iff.mpr (by rw [(hf_1.2.2 (by decide))]; exact hr_4.in)
  refine mld_40 C hs hP hf_1.1 hf_1.2.1 hin_9 dX12_colour_10 ?_
  have ep_10 : x_3.toNatClampNeg = (x1.toInt + x2.toInt + 50).toNat := z_posE hi_hr_4
  rw [ep_10]
  refine lv_istore_n (lv' := [(3, .int (A 40 (x1.toInt + x2.toInt + 50).toNat)), (0, .ref a0), (1, .int x1), (2, .int x2)]) hx hb dX12_colour_11 rfl hl (by decide) rfl (fun ls hl => ?_)
  refine lv_iload_n hx hb dX12_colour_12 rfl (lv_at hl 0 rfl) ?_
  refine bz_ne (tgt := 22) hx hb rfl dX12_colour_13 (by decide) (fun c_11 => ?_) (fun c_11 => ?_)
  · skip
    refine lv_iconst (v := 3) hx hb dX12_colour_22 (by decide) ?_
    refine lv_iload_n hx hb dX12_colour_23 rfl (lv_at hl 0 rfl) ?_
    refine lv_iadd hx hb dX12_colour_24 ?_
    refine lv_topi (fun x_12 ex_12 => ?_)
    exact zaS hQ hx hb hr hlk (by unfold mcol mcolK; rw [if_neg (by omega)]; exact ex_12) dX12_colour_25
  · skip
    refine lv_iload_n hx hb dX12_colour_16 rfl (lv_at hl 3 rfl) ?_
    refine lv_iconst (v := 4) hx hb dX12_colour_17 (by decide) ?_
    refine lv_irem hx hb dX12_colour_18 (by decide) ?_
    refine lv_topi (fun x_14 ex_14 => ?_)
    refine lv_goto (tgt := 25) hx hb dX12_colour_19 (by decide) ?_
    exact zaS hQ hx hb hr hlk (by unfold mcol mcolK; rw [if_pos (by omega)]; exact ex_14) dX12_colour_25
