set_option maxHeartbeats 4000000 in
set_option maxRecDepth 100000 in
theorem c_X6_body (l : Launch) (D : va_G) (K : zK) (hO : zOk K) (vi va : Nat → Nat → Int32) (vg : Nat → Nat → Option Nat) (hI : zI K (vi, va, vg)) (a0 : Nat) (ha0 : a0 ∈ zl K) (hk0 : zk K a0 = 5) (x1 : Int32) : Met l yX6_body (zc yX6_body cX6_body 3 none) (rmd 0) (va_Pc [.ref a0, .int x1] (zB D K (vi, va, vg))) (zQv D K (fun V' => zI K V' ∧ V'.2.2 = vg)) 0 0 (zA K) := by
  refine zin (by decide) (Nat.le_of_ble_eq_true rfl) ?_
  intro p e s m args below meth c ls Q hQ C hr hlk hP hs hl
  have C : CallFix p m c cX6_body 3 s args zw RX6 := C
  obtain ⟨hx, hb, hml, hown, hts⟩ := id C
  have hS : va_S (zA K) s.heap s.heap [] := va_S.rf
  have hl : lv_has ls 3 [(0, .ref a0), (1, .int x1)] := hl
  refine lv_aload_n hx hb dX6_body_0 rfl (lv_at hl 0 rfl) ?_
  refine zg_5_3 C hs hP ha0 hk0 wf_X6_22 dX6_body_1 ?_
  refine lv_bipush (v := 60) hx hb dX6_body_4 (by decide) ?_
  refine lv_irem hx hb dX6_body_6 (by decide) ?_
  refine lv_topi (fun x_1 ex_1 => ?_)
  refine lv_istore_n (lv' := [(2, .int x_1), (0, .ref a0), (1, .int x1)]) hx hb dX6_body_7 rfl hl (by decide) rfl (fun ls hl => ?_)
  refine lv_aload_n hx hb dX6_body_8 rfl (lv_at hl 1 rfl) ?_
  refine zg_5_0 C hs hP ha0 hk0 wf_X6_18 dX6_body_9 ?_
  refine bz_ne (tgt := 36) hx hb rfl dX6_body_12 (by decide) (fun c_2 => ?_) (fun c_2 => ?_)
  · skip
    exact zaV hQ hx hb hr hlk hP hS ⟨hI, rfl⟩ dX6_body_36
  · skip
    refine lv_iload_n hx hb dX6_body_15 rfl (lv_at hl 0 rfl) ?_
    refine bz_lt (tgt := 36) hx hb rfl dX6_body_16 (by decide) (fun c_3 => ?_) (fun c_3 => ?_)
    · skip
      exact zaV hQ hx hb hr hlk hP hS ⟨hI, rfl⟩ dX6_body_36
    · skip
      refine lv_aload_n hx hb dX6_body_19 rfl (lv_at hl 1 rfl) ?_
      refine zg_5_1 C hs hP ha0 hk0 wf_X6_9 dX6_body_20 ?_
      have hf_4 := hO.r (j := 1) ha0 hk0 (rfl : zX 5 1 = some (20, 60))
      refine lv_iload_n hx hb dX6_body_23 rfl (lv_at hl 0 rfl) ?_
      refine lv_iload_n hx hb dX6_body_24 rfl (lv_at hl 2 rfl) ?_
      have g_6 := z_rng (vi a0 3)
      have f_1 := z_rem ex_1 rfl ti_60 (by decide)
      have hin_5 : vp_in x_1 (zn K (zr K a0 1)) := vp_in_iff.mpr (by rw [(hf_4.2.2 (by decide))]; refine ⟨?_, ?_⟩ <;> omega)
      refine ks_20 C hO hs hP hS hf_4.1 hf_4.2.1 hI hin_5 dX6_body_25 (fun va_7 H locs hI hP hS => ?_)
      refine lv_aload_n hx hb dX6_body_26 rfl (lv_at hl 1 rfl) ?_
      refine lv_dup hx hb dX6_body_27 rfl ?_
      refine zg_5_3 C hs hP ha0 hk0 wf_X6_22 dX6_body_28 ?_
      refine lv_iconst (v := 1) hx hb dX6_body_31 (by decide) ?_
      refine lv_iadd hx hb dX6_body_32 ?_
      refine lv_topi (fun x_8 ex_8 => ?_)
      refine kp_5_3 C hO hs hP hS ha0 hk0 wf_X6_22 hI dX6_body_33 (fun vi_9 H locs hI hP hS => ?_)
      exact zaV hQ hx hb hr hlk hP hS ⟨hI, rfl⟩ dX6_body_36
set_option maxHeartbeats 4000000 in
set_option maxRecDepth 100000 in
theorem c_X6_find (l : Launch) (D : va_G) (K : zK) (hO : zOk K) (vi va : Nat → Nat → Int32) (vg : Nat → Nat → Option Nat) (hI : zI K (vi, va, vg)) (a0 : Nat) (ha0 : a0 ∈ zl K) (hk0 : zk K a0 = 5) (x1 : Int32) (x2 : Int32) (x3 : Int32) (x4 : Int32) : Met l yX6_find (zc yX6_find cX6_find 6 none) (rmd 0) (va_Pc [.ref a0, .int x1, .int x2, .int x3, .int x4] (zB D K (vi, va, vg))) (zQv D K (fun V' => zI K V' ∧ V'.2.2 = vg)) 0 0 (zA K) := by
  refine zin (by decide) (Nat.le_of_ble_eq_true rfl) ?_
  intro p e s m args below meth c ls Q hQ C hr hlk hP hs hl
  have C : CallFix p m c cX6_find 6 s args zw RX6 := C
  obtain ⟨hx, hb, hml, hown, hts⟩ := id C
  have hS : va_S (zA K) s.heap s.heap [] := va_S.rf
  have hl : lv_has ls 6 [(0, .ref a0), (1, .int x1), (2, .int x2), (3, .int x3), (4, .int x4)] := hl
  refine lv_aload_n hx hb dX6_find_0 rfl (lv_at hl 0 rfl) ?_
  refine zg_5_4 C hs hP ha0 hk0 wf_X6_26 dX6_find_1 ?_
  refine lv_bipush (v := 60) hx hb dX6_find_4 (by decide) ?_
  refine lv_irem hx hb dX6_find_6 (by decide) ?_
  refine lv_topi (fun x_1 ex_1 => ?_)
  refine lv_iconst (v := 5) hx hb dX6_find_7 (by decide) ?_
  refine lv_imul hx hb dX6_find_8 ?_
  refine lv_topi (fun x_2 ex_2 => ?_)
  refine lv_istore (lv' := [(5, .int x_2), (0, .ref a0), (1, .int x1), (2, .int x2), (3, .int x3), (4, .int x4)]) hx hb dX6_find_9 hl (by decide) rfl (fun ls hl => ?_)
  refine lv_aload_n hx hb dX6_find_11 rfl (lv_at hl 1 rfl) ?_
  refine zg_5_0 C hs hP ha0 hk0 wf_X6_18 dX6_find_12 ?_
  refine bz_ne (tgt := 23) hx hb rfl dX6_find_15 (by decide) (fun c_3 => ?_) (fun c_3 => ?_)
  · skip
    exact zaV hQ hx hb hr hlk hP hS ⟨hI, rfl⟩ dX6_find_23
  · skip
    refine lv_iload hx hb dX6_find_18 (lv_at hl 0 rfl) ?_
    refine bz_ge (tgt := 24) hx hb rfl dX6_find_20 (by decide) (fun c_4 => ?_) (fun c_4 => ?_)
    · skip
      refine lv_aload_n hx hb dX6_find_24 rfl (lv_at hl 1 rfl) ?_
      refine zg_5_2 C hs hP ha0 hk0 wf_X6_15 dX6_find_25 ?_
      have hf_5 := hO.r (j := 2) ha0 hk0 (rfl : zX 5 2 = some (20, 300))
      refine lv_iload hx hb dX6_find_28 (lv_at hl 0 rfl) ?_
      refine lv_iload_n hx hb dX6_find_30 rfl (lv_at hl 2 rfl) ?_
      have g_7 := z_rng (vi a0 4)
      have f_1 := z_rem ex_1 rfl ti_60 (by decide)
      obtain ⟨f_2, l_2, u_2⟩ := z_mul ex_2 rfl ti_5
      have hin_6 : vp_in x_2 (zn K (zr K a0 2)) := vp_in_iff.mpr (by rw [(hf_5.2.2 (by decide))]; refine ⟨?_, ?_⟩ <;> omega)
      refine ks_20 C hO hs hP hS hf_5.1 hf_5.2.1 hI hin_6 dX6_find_31 (fun va_8 H locs hI hP hS => ?_)
      refine lv_aload_n hx hb dX6_find_32 rfl (lv_at hl 1 rfl) ?_
      refine zg_5_2 C hs hP ha0 hk0 wf_X6_15 dX6_find_33 ?_
      refine lv_iload hx hb dX6_find_36 (lv_at hl 0 rfl) ?_
      refine lv_iconst (v := 1) hx hb dX6_find_38 (by decide) ?_
      refine lv_iadd hx hb dX6_find_39 ?_
      refine lv_topi (fun x_9 ex_9 => ?_)
      refine lv_iload_n hx hb dX6_find_40 rfl (lv_at hl 3 rfl) ?_
      obtain ⟨f_9, l_9, u_9⟩ := z_add ex_9 rfl ti_1
      have hin_10 : vp_in x_9 (zn K (zr K a0 2)) := vp_in_iff.mpr (by rw [(hf_5.2.2 (by decide))]; refine ⟨?_, ?_⟩ <;> omega)
      refine ks_20 C hO hs hP hS hf_5.1 hf_5.2.1 hI hin_10 dX6_find_41 (fun va_11 H locs hI hP hS => ?_)
      refine lv_aload_n hx hb dX6_find_42 rfl (lv_at hl 1 rfl) ?_
      refine zg_5_2 C hs hP ha0 hk0 wf_X6_15 dX6_find_43 ?_
      refine lv_iload hx hb dX6_find_46 (lv_at hl 0 rfl) ?_
      refine lv_iconst (v := 2) hx hb dX6_find_48 (by decide) ?_
      refine lv_iadd hx hb dX6_find_49 ?_
      refine lv_topi (fun x_12 ex_12 => ?_)
      refine lv_iload_n hx hb dX6_find_50 rfl (lv_at hl 4 rfl) ?_
      obtain ⟨f_12, l_12, u_12⟩ := z_add ex_12 rfl ti_2
      have hin_13 : vp_in x_12 (zn K (zr K a0 2)) := vp_in_iff.mpr (by rw [(hf_5.2.2 (by decide))]; refine ⟨?_, ?_⟩ <;> omega)
      refine ks_20 C hO hs hP hS hf_5.1 hf_5.2.1 hI hin_13 dX6_find_51 (fun va_14 H locs hI hP hS => ?_)
      refine lv_aload_n hx hb dX6_find_52 rfl (lv_at hl 1 rfl) ?_
      refine zg_5_2 C hs hP ha0 hk0 wf_X6_15 dX6_find_53 ?_
      refine lv_iload hx hb dX6_find_56 (lv_at hl 0 rfl) ?_
      refine lv_iconst (v := 3) hx hb dX6_find_58 (by decide) ?_
      refine lv_iadd hx hb dX6_find_59 ?_
      refine lv_topi (fun x_15 ex_15 => ?_)
      refine lv_iload hx hb dX6_find_60 (lv_at hl 5 rfl) ?_
      obtain ⟨f_15, l_15, u_15⟩ := z_add ex_15 rfl ti_3
      have hin_16 : vp_in x_15 (zn K (zr K a0 2)) := vp_in_iff.mpr (by rw [(hf_5.2.2 (by decide))]; refine ⟨?_, ?_⟩ <;> omega)
      refine ks_20 C hO hs hP hS hf_5.1 hf_5.2.1 hI hin_16 dX6_find_62 (fun va_17 H locs hI hP hS => ?_)
      refine lv_aload_n hx hb dX6_find_63 rfl (lv_at hl 1 rfl) ?_
      refine zg_5_2 C hs hP ha0 hk0 wf_X6_15 dX6_find_64 ?_
      refine lv_iload hx hb dX6_find_67 (lv_at hl 0 rfl) ?_
      refine lv_iconst (v := 4) hx hb dX6_find_69 (by decide) ?_
      refine lv_iadd hx hb dX6_find_70 ?_
      refine lv_topi (fun x_18 ex_18 => ?_)
      refine lv_aload_n hx hb dX6_find_71 rfl (lv_at hl 1 rfl) ?_
      refine zg_5_5 C hs hP ha0 hk0 wf_X6_29 dX6_find_72 ?_
      obtain ⟨f_18, l_18, u_18⟩ := z_add ex_18 rfl ti_4
      have hin_19 : vp_in x_18 (zn K (zr K a0 2)) := vp_in_iff.mpr (by rw [(hf_5.2.2 (by decide))]; refine ⟨?_, ?_⟩ <;> omega)
      refine ks_20 C hO hs hP hS hf_5.1 hf_5.2.1 hI hin_19 dX6_find_75 (fun va_20 H locs hI hP hS => ?_)
      refine lv_aload_n hx hb dX6_find_76 rfl (lv_at hl 1 rfl) ?_
      refine lv_dup hx hb dX6_find_77 rfl ?_
      refine zg_5_4 C hs hP ha0 hk0 wf_X6_26 dX6_find_78 ?_
      refine lv_iconst (v := 1) hx hb dX6_find_81 (by decide) ?_
      refine lv_iadd hx hb dX6_find_82 ?_
      refine lv_topi (fun x_21 ex_21 => ?_)
      refine kp_5_4 C hO hs hP hS ha0 hk0 wf_X6_26 hI dX6_find_83 (fun vi_22 H locs hI hP hS => ?_)
      exact zaV hQ hx hb hr hlk hP hS ⟨hI, rfl⟩ dX6_find_86
    · skip
      exact zaV hQ hx hb hr hlk hP hS ⟨hI, rfl⟩ dX6_find_23
set_option maxHeartbeats 4000000 in
set_option maxRecDepth 100000 in
theorem c_X6_bodyAt (l : Launch) (D : va_G) (K : zK) (hO : zOk K) (vi va : Nat → Nat → Int32) (vg : Nat → Nat → Option Nat) (hI : zI K (vi, va, vg)) (a0 : Nat) (ha0 : a0 ∈ zl K) (hk0 : zk K a0 = 5) (x1 : Int32) : Met l yX6_bodyAt (zc yX6_bodyAt cX6_bodyAt 2 (some .int)) (rmd 1) (va_Pc [.ref a0, .int x1] (zB D K (vi, va, vg))) (vp_Si (fun r => True)) 0 0 (fun _ => False) := by
  refine zin (by decide) (Nat.le_of_ble_eq_true rfl) ?_
  intro p e s m args below meth c ls Q hQ C hr hlk hP hs hl
  have C : CallFix p m c cX6_bodyAt 2 s args zw RX6 := C
  obtain ⟨hx, hb, hml, hown, hts⟩ := id C
  have hS : va_S (zA K) s.heap s.heap [] := va_S.rf
  have hl : lv_has ls 2 [(0, .ref a0), (1, .int x1)] := hl
  refine lv_iload_n hx hb dX6_bodyAt_0 rfl (lv_at hl 1 rfl) ?_
  refine bz_lt (tgt := 17) hx hb rfl dX6_bodyAt_1 (by decide) (fun c_1 => ?_) (fun c_1 => ?_)
  · skip
    refine lv_iconst (v := (-1)) hx hb dX6_bodyAt_17 (by decide) ?_
    exact zaS hQ hx hb hr hlk trivial dX6_bodyAt_18
  · skip
    refine lv_iload_n hx hb dX6_bodyAt_4 rfl (lv_at hl 1 rfl) ?_
    refine lv_aload_n hx hb dX6_bodyAt_5 rfl (lv_at hl 0 rfl) ?_
    refine zg_5_3 C hs hP ha0 hk0 wf_X6_22 dX6_bodyAt_6 ?_
    refine lv_bipush (v := 60) hx hb dX6_bodyAt_9 (by decide) ?_
    refine va_mmin hx hb (hml.trans hl.1.symm) hown (hts _ wm_X6_32) (hts _ wt_Lib_Math_min_name) (hts _ wn_J9) (hts _ wo_min) (by decide) (Nat.le_of_ble_eq_true rfl) (Nat.zero_le _) (Nat.zero_le _) dX6_bodyAt_11 ?_
    refine lv_topi (fun x_2 ex_2 => ?_)
    refine bi_lt (tgt := 19) hx hb rfl rfl dX6_bodyAt_14 (by decide) (fun c_3 => ?_) (fun c_3 => ?_)
    · skip
      refine lv_aload_n hx hb dX6_bodyAt_19 rfl (lv_at hl 0 rfl) ?_
      refine zg_5_1 C hs hP ha0 hk0 wf_X6_9 dX6_bodyAt_20 ?_
      have hf_4 := hO.r (j := 1) ha0 hk0 (rfl : zX 5 1 = some (20, 60))
      refine lv_iconst (v := 0) hx hb dX6_bodyAt_23 (by decide) ?_
      refine lv_aload_n hx hb dX6_bodyAt_24 rfl (lv_at hl 0 rfl) ?_
      refine zg_5_3 C hs hP ha0 hk0 wf_X6_22 dX6_bodyAt_25 ?_
      refine lv_bipush (v := 60) hx hb dX6_bodyAt_28 (by decide) ?_
      refine lv_isub hx hb dX6_bodyAt_30 ?_
      refine lv_topi (fun x_5 ex_5 => ?_)
      refine va_mmax hx hb (hml.trans hl.1.symm) hown (hts _ wm_X6_38) (hts _ wt_Lib_Math_max_name) (hts _ wn_J9) (hts _ wo_max) (by decide) (Nat.le_of_ble_eq_true rfl) (Nat.zero_le _) (Nat.zero_le _) dX6_bodyAt_31 ?_
      refine lv_topi (fun x_6 ex_6 => ?_)
      refine lv_iload_n hx hb dX6_bodyAt_34 rfl (lv_at hl 1 rfl) ?_
      refine lv_iadd hx hb dX6_bodyAt_35 ?_
      refine lv_topi (fun x_7 ex_7 => ?_)
      refine lv_bipush (v := 60) hx hb dX6_bodyAt_36 (by decide) ?_
      refine lv_irem hx hb dX6_bodyAt_38 (by decide) ?_
      refine lv_topi (fun x_8 ex_8 => ?_)
      have g_10 := z_rng (vi a0 3)
      obtain ⟨f_5, l_5, u_5⟩ := z_sub ex_5 rfl ti_60
      have f_6 := z_max ex_6 ti_0 rfl
      have g_11 := z_rng x1
      obtain ⟨f_7, l_7, u_7⟩ := z_add ex_7 rfl rfl
      have f_8 := z_rem ex_8 rfl ti_60 (by decide)
      have f_2 := z_min ex_2 rfl ti_60
      have hin_9 : vp_in x_8 (zn K (zr K a0 1)) := vp_in_iff.mpr (by rw [(hf_4.2.2 (by decide))]; refine ⟨?_, ?_⟩ <;> omega)
      refine zld_20 C hs hP hf_4.1 hf_4.2.1 hin_9 dX6_bodyAt_39 ?_
      exact zaS hQ hx hb hr hlk trivial dX6_bodyAt_40
    · skip
      refine lv_iconst (v := (-1)) hx hb dX6_bodyAt_17 (by decide) ?_
      exact zaS hQ hx hb hr hlk trivial dX6_bodyAt_18
set_option maxHeartbeats 4000000 in
set_option maxRecDepth 100000 in
theorem c_X6_findingAt (l : Launch) (D : va_G) (K : zK) (hO : zOk K) (vi va : Nat → Nat → Int32) (vg : Nat → Nat → Option Nat) (hI : zI K (vi, va, vg)) (a0 : Nat) (ha0 : a0 ∈ zl K) (hk0 : zk K a0 = 5) (x1 : Int32) (x2 : Int32) : Met l yX6_findingAt (zc yX6_findingAt cX6_findingAt 4 (some .int)) (rmd 1) (va_Pc [.ref a0, .int x1, .int x2] (zB D K (vi, va, vg))) (vp_Si (fun r => True)) 0 0 (fun _ => False) := by
  refine zin (by decide) (Nat.le_of_ble_eq_true rfl) ?_
  intro p e s m args below meth c ls Q hQ C hr hlk hP hs hl
  have C : CallFix p m c cX6_findingAt 4 s args zw RX6 := C
  obtain ⟨hx, hb, hml, hown, hts⟩ := id C
  have hS : va_S (zA K) s.heap s.heap [] := va_S.rf
  have hl : lv_has ls 4 [(0, .ref a0), (1, .int x1), (2, .int x2)] := hl
  refine lv_iload_n hx hb dX6_findingAt_0 rfl (lv_at hl 1 rfl) ?_
  refine bz_lt (tgt := 26) hx hb rfl dX6_findingAt_1 (by decide) (fun c_1 => ?_) (fun c_1 => ?_)
  · skip
    refine lv_iconst (v := (-1)) hx hb dX6_findingAt_26 (by decide) ?_
    exact zaS hQ hx hb hr hlk trivial dX6_findingAt_27
  · skip
    refine lv_iload_n hx hb dX6_findingAt_4 rfl (lv_at hl 1 rfl) ?_
    refine lv_aload_n hx hb dX6_findingAt_5 rfl (lv_at hl 0 rfl) ?_
    refine zg_5_4 C hs hP ha0 hk0 wf_X6_26 dX6_findingAt_6 ?_
    refine lv_bipush (v := 60) hx hb dX6_findingAt_9 (by decide) ?_
    refine va_mmin hx hb (hml.trans hl.1.symm) hown (hts _ wm_X6_32) (hts _ wt_Lib_Math_min_name) (hts _ wn_J9) (hts _ wo_min) (by decide) (Nat.le_of_ble_eq_true rfl) (Nat.zero_le _) (Nat.zero_le _) dX6_findingAt_11 ?_
    refine lv_topi (fun x_2 ex_2 => ?_)
    refine bi_ge (tgt := 26) hx hb rfl rfl dX6_findingAt_14 (by decide) (fun c_3 => ?_) (fun c_3 => ?_)
    · skip
      refine lv_iconst (v := (-1)) hx hb dX6_findingAt_26 (by decide) ?_
      exact zaS hQ hx hb hr hlk trivial dX6_findingAt_27
    · skip
      refine lv_iload_n hx hb dX6_findingAt_17 rfl (lv_at hl 2 rfl) ?_
      refine bz_lt (tgt := 26) hx hb rfl dX6_findingAt_18 (by decide) (fun c_4 => ?_) (fun c_4 => ?_)
      · skip
        refine lv_iconst (v := (-1)) hx hb dX6_findingAt_26 (by decide) ?_
        exact zaS hQ hx hb hr hlk trivial dX6_findingAt_27
      · skip
        refine lv_iload_n hx hb dX6_findingAt_21 rfl (lv_at hl 2 rfl) ?_
        refine lv_iconst (v := 5) hx hb dX6_findingAt_22 (by decide) ?_
        refine bi_lt (tgt := 28) hx hb rfl ti_5 dX6_findingAt_23 (by decide) (fun c_5 => ?_) (fun c_5 => ?_)
        · skip
          refine lv_iconst (v := 0) hx hb dX6_findingAt_28 (by decide) ?_
          refine lv_aload_n hx hb dX6_findingAt_29 rfl (lv_at hl 0 rfl) ?_
          refine zg_5_4 C hs hP ha0 hk0 wf_X6_26 dX6_findingAt_30 ?_
          refine lv_bipush (v := 60) hx hb dX6_findingAt_33 (by decide) ?_
          refine lv_isub hx hb dX6_findingAt_35 ?_
          refine lv_topi (fun x_6 ex_6 => ?_)
          refine va_mmax hx hb (hml.trans hl.1.symm) hown (hts _ wm_X6_38) (hts _ wt_Lib_Math_max_name) (hts _ wn_J9) (hts _ wo_max) (by decide) (Nat.le_of_ble_eq_true rfl) (Nat.zero_le _) (Nat.zero_le _) dX6_findingAt_36 ?_
          refine lv_topi (fun x_7 ex_7 => ?_)
          refine lv_iload_n hx hb dX6_findingAt_39 rfl (lv_at hl 1 rfl) ?_
          refine lv_iadd hx hb dX6_findingAt_40 ?_
          refine lv_topi (fun x_8 ex_8 => ?_)
          refine lv_bipush (v := 60) hx hb dX6_findingAt_41 (by decide) ?_
          refine lv_irem hx hb dX6_findingAt_43 (by decide) ?_
          refine lv_topi (fun x_9 ex_9 => ?_)
          refine lv_iconst (v := 5) hx hb dX6_findingAt_44 (by decide) ?_
          refine lv_imul hx hb dX6_findingAt_45 ?_
          refine lv_topi (fun x_10 ex_10 => ?_)
          refine lv_istore_n (lv' := [(3, .int x_10), (0, .ref a0), (1, .int x1), (2, .int x2)]) hx hb dX6_findingAt_46 rfl hl (by decide) rfl (fun ls hl => ?_)
          refine lv_aload_n hx hb dX6_findingAt_47 rfl (lv_at hl 1 rfl) ?_
          refine zg_5_2 C hs hP ha0 hk0 wf_X6_15 dX6_findingAt_48 ?_
          have hf_11 := hO.r (j := 2) ha0 hk0 (rfl : zX 5 2 = some (20, 300))
          refine lv_iload_n hx hb dX6_findingAt_51 rfl (lv_at hl 0 rfl) ?_
          refine lv_iload_n hx hb dX6_findingAt_52 rfl (lv_at hl 3 rfl) ?_
          refine lv_iadd hx hb dX6_findingAt_53 ?_
          refine lv_topi (fun x_12 ex_12 => ?_)
          have g_14 := z_rng (vi a0 4)
          obtain ⟨f_6, l_6, u_6⟩ := z_sub ex_6 rfl ti_60
          have f_7 := z_max ex_7 ti_0 rfl
          have g_15 := z_rng x1
          obtain ⟨f_8, l_8, u_8⟩ := z_add ex_8 rfl rfl
          have f_9 := z_rem ex_9 rfl ti_60 (by decide)
          obtain ⟨f_10, l_10, u_10⟩ := z_mul ex_10 rfl ti_5
          have g_16 := z_rng x2
          obtain ⟨f_12, l_12, u_12⟩ := z_add ex_12 rfl rfl
          have f_2 := z_min ex_2 rfl ti_60
          have hin_13 : vp_in x_12 (zn K (zr K a0 2)) := vp_in_iff.mpr (by rw [(hf_11.2.2 (by decide))]; refine ⟨?_, ?_⟩ <;> omega)
          refine zld_20 C hs hP hf_11.1 hf_11.2.1 hin_13 dX6_findingAt_54 ?_
          exact zaS hQ hx hb hr hlk trivial dX6_findingAt_55
        · skip
          refine lv_iconst (v := (-1)) hx hb dX6_findingAt_26 (by decide) ?_
          exact zaS hQ hx hb hr hlk trivial dX6_findingAt_27
set_option maxHeartbeats 4000000 in
set_option maxRecDepth 100000 in
theorem c_X1_setBid (l : Launch) (D : va_G) (K : zK) (hO : zOk K) (vi va : Nat → Nat → Int32) (vg : Nat → Nat → Option Nat) (hI : zI K (vi, va, vg)) (a0 : Nat) (ha0 : a0 ∈ zl K) (hk0 : zk K a0 = 1) (x1 : Int32) (x2 : Int32) (x3 : Int32) : Met l yX1_setBid (zc yX1_setBid cX1_setBid 4 none) (rmd 0) (va_Pc [.ref a0, .int x1, .int x2, .int x3] (zB D K (vi, va, vg))) (zQv D K (fun V' => zI K V' ∧ V'.2.2 = vg)) 0 0 (zA K) := by
  refine zin (by decide) (Nat.le_of_ble_eq_true rfl) ?_
  intro p e s m args below meth c ls Q hQ C hr hlk hP hs hl
  have C : CallFix p m c cX1_setBid 4 s args zw RX1 := C
  obtain ⟨hx, hb, hml, hown, hts⟩ := id C
  have hS : va_S (zA K) s.heap s.heap [] := va_S.rf
  have hl : lv_has ls 4 [(0, .ref a0), (1, .int x1), (2, .int x2), (3, .int x3)] := hl
  refine lv_aload_n hx hb dX1_setBid_0 rfl (lv_at hl 0 rfl) ?_
  refine lv_iload_n hx hb dX1_setBid_1 rfl (lv_at hl 1 rfl) ?_
  refine kp_1_4 C hO hs hP hS ha0 hk0 wf_X1_68 hI dX1_setBid_2 (fun vi_1 H locs hI hP hS => ?_)
  refine lv_aload_n hx hb dX1_setBid_5 rfl (lv_at hl 0 rfl) ?_
  refine lv_iload_n hx hb dX1_setBid_6 rfl (lv_at hl 2 rfl) ?_
  refine kp_1_5 C hO hs hP hS ha0 hk0 wf_X1_71 hI dX1_setBid_7 (fun vi_2 H locs hI hP hS => ?_)
  refine lv_aload_n hx hb dX1_setBid_10 rfl (lv_at hl 0 rfl) ?_
  refine lv_iload_n hx hb dX1_setBid_11 rfl (lv_at hl 3 rfl) ?_
  refine kp_1_6 C hO hs hP hS ha0 hk0 wf_X1_74 hI dX1_setBid_12 (fun vi_3 H locs hI hP hS => ?_)
  refine lv_aload_n hx hb dX1_setBid_15 rfl (lv_at hl 0 rfl) ?_
  refine lv_iconst (v := 0) hx hb dX1_setBid_16 (by decide) ?_
  refine kp_1_7 C hO hs hP hS ha0 hk0 wf_X1_77 hI dX1_setBid_17 (fun vi_4 H locs hI hP hS => ?_)
  exact zaV hQ hx hb hr hlk hP hS ⟨hI, rfl⟩ dX1_setBid_20
set_option maxHeartbeats 4000000 in
set_option maxRecDepth 100000 in
theorem c_X1_isAboveBid (l : Launch) (D : va_G) (K : zK) (hO : zOk K) (vi va : Nat → Nat → Int32) (vg : Nat → Nat → Option Nat) (hI : zI K (vi, va, vg)) (a0 : Nat) (ha0 : a0 ∈ zl K) (hk0 : zk K a0 = 1) (x1 : Int32) (x2 : Int32) : Met l yX1_isAboveBid (zc yX1_isAboveBid cX1_isAboveBid 3 (some .boolean)) (rmd 0) (va_Pc [.ref a0, .int x1, .int x2] (zB D K (vi, va, vg))) (vp_Si (fun r => (r = 0 ∨ r = 1))) 0 0 (fun _ => False) := by
  refine zin (by decide) (Nat.le_of_ble_eq_true rfl) ?_
  intro p e s m args below meth c ls Q hQ C hr hlk hP hs hl
  have C : CallFix p m c cX1_isAboveBid 3 s args zw RX1 := C
  obtain ⟨hx, hb, hml, hown, hts⟩ := id C
  have hS : va_S (zA K) s.heap s.heap [] := va_S.rf
  have hl : lv_has ls 3 [(0, .ref a0), (1, .int x1), (2, .int x2)] := hl
  refine lv_iload_n hx hb dX1_isAboveBid_0 rfl (lv_at hl 1 rfl) ?_
  refine lv_aload_n hx hb dX1_isAboveBid_1 rfl (lv_at hl 0 rfl) ?_
  refine zg_1_4 C hs hP ha0 hk0 wf_X1_68 dX1_isAboveBid_2 ?_
  refine bi_gt (tgt := 24) hx hb rfl rfl dX1_isAboveBid_5 (by decide) (fun c_1 => ?_) (fun c_1 => ?_)
  · skip
    refine lv_iconst (v := 1) hx hb dX1_isAboveBid_24 (by decide) ?_
    refine lv_goto (tgt := 29) hx hb dX1_isAboveBid_25 (by decide) ?_
    exact zaSz hQ hx hb hr hlk (Or.inr rfl) (Or.inr rfl) dX1_isAboveBid_29
  · skip
    refine lv_iload_n hx hb dX1_isAboveBid_8 rfl (lv_at hl 1 rfl) ?_
    refine lv_aload_n hx hb dX1_isAboveBid_9 rfl (lv_at hl 0 rfl) ?_
    refine zg_1_4 C hs hP ha0 hk0 wf_X1_68 dX1_isAboveBid_10 ?_
    refine bi_ne (tgt := 28) hx hb rfl rfl dX1_isAboveBid_13 (by decide) (fun c_2 => ?_) (fun c_2 => ?_)
    · skip
      refine lv_iconst (v := 0) hx hb dX1_isAboveBid_28 (by decide) ?_
      exact zaSz hQ hx hb hr hlk (Or.inl rfl) (Or.inl rfl) dX1_isAboveBid_29
    · skip
      refine lv_iload_n hx hb dX1_isAboveBid_16 rfl (lv_at hl 2 rfl) ?_
      refine lv_aload_n hx hb dX1_isAboveBid_17 rfl (lv_at hl 0 rfl) ?_
      refine zg_1_5 C hs hP ha0 hk0 wf_X1_71 dX1_isAboveBid_18 ?_
      refine bi_le (tgt := 28) hx hb rfl rfl dX1_isAboveBid_21 (by decide) (fun c_3 => ?_) (fun c_3 => ?_)
      · skip
        refine lv_iconst (v := 0) hx hb dX1_isAboveBid_28 (by decide) ?_
        exact zaSz hQ hx hb hr hlk (Or.inl rfl) (Or.inl rfl) dX1_isAboveBid_29
      · skip
        refine lv_iconst (v := 1) hx hb dX1_isAboveBid_24 (by decide) ?_
        refine lv_goto (tgt := 29) hx hb dX1_isAboveBid_25 (by decide) ?_
        exact zaSz hQ hx hb hr hlk (Or.inr rfl) (Or.inr rfl) dX1_isAboveBid_29
set_option maxHeartbeats 4000000 in
set_option maxRecDepth 100000 in
theorem c_X1_clear (l : Launch) (D : va_G) (K : zK) (hO : zOk K) (vi va : Nat → Nat → Int32) (vg : Nat → Nat → Option Nat) (hI : zI K (vi, va, vg)) (a0 : Nat) (ha0 : a0 ∈ zl K) (hk0 : zk K a0 = 1) : Met l yX1_clear (zc yX1_clear cX1_clear 1 none) (rmd 1) (va_Pc [.ref a0] (zB D K (vi, va, vg))) (zQv D K (fun V' => zI K V' ∧ V'.2.2 = vg)) 0 0 (zA K) := by
  refine zin (by decide) (Nat.le_of_ble_eq_true rfl) ?_
  intro p e s m args below meth c ls Q hQ C hr hlk hP hs hl
  have C : CallFix p m c cX1_clear 1 s args zw RX1 := C
  obtain ⟨hx, hb, hml, hown, hts⟩ := id C
  have hS : va_S (zA K) s.heap s.heap [] := va_S.rf
  have hl : lv_has ls 1 [(0, .ref a0)] := hl
  refine lv_aload_n hx hb dX1_clear_0 rfl (lv_at hl 0 rfl) ?_
  refine lv_iconst (v := 0) hx hb dX1_clear_1 (by decide) ?_
  refine kp_1_0 C hO hs hP hS ha0 hk0 wf_X1_39 hI dX1_clear_2 (fun vi_1 H locs hI hP hS => ?_)
  refine lv_aload_n hx hb dX1_clear_5 rfl (lv_at hl 0 rfl) ?_
  refine lv_iconst (v := 0) hx hb dX1_clear_6 (by decide) ?_
  refine kp_1_1 C hO hs hP hS ha0 hk0 wf_X1_43 hI dX1_clear_7 (fun vi_2 H locs hI hP hS => ?_)
  refine lv_aload_n hx hb dX1_clear_10 rfl (lv_at hl 0 rfl) ?_
  refine lv_iconst (v := (-1)) hx hb dX1_clear_11 (by decide) ?_
  refine kp_1_2 C hO hs hP hS ha0 hk0 wf_X1_46 hI dX1_clear_12 (fun vi_3 H locs hI hP hS => ?_)
  refine lv_aload_n hx hb dX1_clear_15 rfl (lv_at hl 0 rfl) ?_
  refine lv_iconst (v := (-1)) hx hb dX1_clear_16 (by decide) ?_
  refine kp_1_3 C hO hs hP hS ha0 hk0 wf_X1_49 hI dX1_clear_17 (fun vi_4 H locs hI hP hS => ?_)
  refine lv_aload_n hx hb dX1_clear_20 rfl (lv_at hl 0 rfl) ?_
  refine lv_iconst (v := 0) hx hb dX1_clear_21 (by decide) ?_
  refine lv_iconst (v := (-1)) hx hb dX1_clear_22 (by decide) ?_
  refine lv_iconst (v := (-1)) hx hb dX1_clear_23 (by decide) ?_
  refine zcV (zrV (As := [.int 0, .int (-1), .int (-1)]) (b := a0) (rest := []) C hs hP hS (c_X1_setBid l D K hO vi_4 va vg hI a0 ha0 hk0 0 (-1) (-1)) m_X1_setBid wm_X1_52 (zrecv hs hP ha0 (zF_1 hk0) rfl) ⟨by decide, by decide⟩ hl.1 (Nat.le_of_ble_eq_true rfl) dX1_clear_24) hS (fun V_5 H locs p_5 hP hS => ?_)
  obtain ⟨vi_5, va_5, vg_5⟩ := V_5
  obtain ⟨hI, hg_5⟩ := p_5
  try dsimp only at hI hg_5
  replace hg_5 := hg_5.symm
  subst hg_5
  refine lv_aload_n hx hb dX1_clear_27 rfl (lv_at hl 0 rfl) ?_
  refine lv_iconst (v := 0) hx hb dX1_clear_28 (by decide) ?_
  refine kp_1_8 C hO hs hP hS ha0 hk0 wf_X1_56 hI (by rw [ti_0]; decide) dX1_clear_29 (fun vi_6 H locs hI hP hS => ?_)
  refine lv_aload_n hx hb dX1_clear_32 rfl (lv_at hl 0 rfl) ?_
  refine zg_1_11 C hs hP ha0 hk0 wf_X1_9 dX1_clear_33 ?_
  have hf_7 := hO.r (j := 11) ha0 hk0 (rfl : zX 1 11 = some (20, 2))
  refine lv_iconst (v := 0) hx hb dX1_clear_36 (by decide) ?_
  refine zcV (zrS (As := [.ref (zr K a0 11), .int 0]) (rest := []) C hs hP hS (c_J7_fill_53178 l D K hO vi_6 va_5 vg hI (zr K a0 11) hf_7.1 hf_7.2.1 0) m_J7_fill_53178 wm_X1_59 ⟨by decide, by decide⟩ hl.1 (Nat.le_of_ble_eq_true rfl) dX1_clear_37) hS (fun V_8 H locs p_8 hP hS => ?_)
  obtain ⟨vi_8, va_8, vg_8⟩ := V_8
  obtain ⟨hI, hg_8⟩ := p_8
  try dsimp only at hI hg_8
  replace hg_8 := hg_8.symm
  subst hg_8
  refine lv_aload_n hx hb dX1_clear_40 rfl (lv_at hl 0 rfl) ?_
  refine zg_1_12 C hs hP ha0 hk0 wf_X1_15 dX1_clear_41 ?_
  have hf_9 := hO.r (j := 12) ha0 hk0 (rfl : zX 1 12 = some (20, 2))
  refine lv_iconst (v := 0) hx hb dX1_clear_44 (by decide) ?_
  refine zcV (zrS (As := [.ref (zr K a0 12), .int 0]) (rest := []) C hs hP hS (c_J7_fill_53178 l D K hO vi_8 va_8 vg hI (zr K a0 12) hf_9.1 hf_9.2.1 0) m_J7_fill_53178 wm_X1_59 ⟨by decide, by decide⟩ hl.1 (Nat.le_of_ble_eq_true rfl) dX1_clear_45) hS (fun V_10 H locs p_10 hP hS => ?_)
  obtain ⟨vi_10, va_10, vg_10⟩ := V_10
  obtain ⟨hI, hg_10⟩ := p_10
  try dsimp only at hI hg_10
  replace hg_10 := hg_10.symm
  subst hg_10
  refine lv_aload_n hx hb dX1_clear_48 rfl (lv_at hl 0 rfl) ?_
  refine zg_1_15 C hs hP ha0 hk0 wf_X1_24 dX1_clear_49 ?_
  have hf_11 := hO.r (j := 15) ha0 hk0 (rfl : zX 1 15 = some (20, 60))
  refine lv_iconst (v := (-1)) hx hb dX1_clear_52 (by decide) ?_
  refine zcV (zrS (As := [.ref (zr K a0 15), .int (-1)]) (rest := []) C hs hP hS (c_J7_fill_53178 l D K hO vi_10 va_10 vg hI (zr K a0 15) hf_11.1 hf_11.2.1 (-1)) m_J7_fill_53178 wm_X1_59 ⟨by decide, by decide⟩ hl.1 (Nat.le_of_ble_eq_true rfl) dX1_clear_53) hS (fun V_12 H locs p_12 hP hS => ?_)
  obtain ⟨vi_12, va_12, vg_12⟩ := V_12
  obtain ⟨hI, hg_12⟩ := p_12
  try dsimp only at hI hg_12
  replace hg_12 := hg_12.symm
  subst hg_12
  refine lv_aload_n hx hb dX1_clear_56 rfl (lv_at hl 0 rfl) ?_
  refine zg_1_16 C hs hP ha0 hk0 wf_X1_27 dX1_clear_57 ?_
  have hf_13 := hO.r (j := 16) ha0 hk0 (rfl : zX 1 16 = some (20, 60))
  refine lv_iconst (v := (-1)) hx hb dX1_clear_60 (by decide) ?_
  refine zcV (zrS (As := [.ref (zr K a0 16), .int (-1)]) (rest := []) C hs hP hS (c_J7_fill_53178 l D K hO vi_12 va_12 vg hI (zr K a0 16) hf_13.1 hf_13.2.1 (-1)) m_J7_fill_53178 wm_X1_59 ⟨by decide, by decide⟩ hl.1 (Nat.le_of_ble_eq_true rfl) dX1_clear_61) hS (fun V_14 H locs p_14 hP hS => ?_)
  obtain ⟨vi_14, va_14, vg_14⟩ := V_14
  obtain ⟨hI, hg_14⟩ := p_14
  try dsimp only at hI hg_14
  replace hg_14 := hg_14.symm
  subst hg_14
  refine lv_aload_n hx hb dX1_clear_64 rfl (lv_at hl 0 rfl) ?_
  refine zg_1_17 C hs hP ha0 hk0 wf_X1_35 dX1_clear_65 ?_
  have hf_15 := hO.r (j := 17) ha0 hk0 (rfl : zX 1 17 = some (7, 0))
  refine lv_iconst (v := 0) hx hb dX1_clear_68 (by decide) ?_
  refine kp_7_1 C hO hs hP hS hf_15.1 hf_15.2.1 wf_X1_65 hI dX1_clear_69 (fun vi_16 H locs hI hP hS => ?_)
  exact zaV hQ hx hb hr hlk hP hS ⟨hI, rfl⟩ dX1_clear_72
set_option maxHeartbeats 4000000 in
set_option maxRecDepth 100000 in
theorem c_X1_setTo (l : Launch) (D : va_G) (K : zK) (hO : zOk K) (vi va : Nat → Nat → Int32) (vg : Nat → Nat → Option Nat) (hI : zI K (vi, va, vg)) (a0 : Nat) (ha0 : a0 ∈ zl K) (hk0 : zk K a0 = 1) (a1 : Nat) (ha1 : a1 ∈ zl K) (hk1 : zk K a1 = 1) : Met l yX1_setTo (zc yX1_setTo cX1_setTo 2 none) (rmd 3) (va_Pc [.ref a0, .ref a1] (zB D K (vi, va, vg))) (zQv D K (fun V' => zI K V' ∧ V'.2.2 = vg)) 0 0 (zA K) := by
  refine zin (by decide) (Nat.le_of_ble_eq_true rfl) ?_
  intro p e s m args below meth c ls Q hQ C hr hlk hP hs hl
  have C : CallFix p m c cX1_setTo 2 s args zw RX1 := C
  obtain ⟨hx, hb, hml, hown, hts⟩ := id C
  have hS : va_S (zA K) s.heap s.heap [] := va_S.rf
  have hl : lv_has ls 2 [(0, .ref a0), (1, .ref a1)] := hl
  refine lv_aload_n hx hb dX1_setTo_0 rfl (lv_at hl 0 rfl) ?_
  refine lv_aload_n hx hb dX1_setTo_1 rfl (lv_at hl 1 rfl) ?_
  refine zg_1_0 C hs hP ha1 hk1 wf_X1_39 dX1_setTo_2 ?_
  refine kp_1_0 C hO hs hP hS ha0 hk0 wf_X1_39 hI dX1_setTo_5 (fun vi_1 H locs hI hP hS => ?_)
  refine lv_aload_n hx hb dX1_setTo_8 rfl (lv_at hl 0 rfl) ?_
  refine lv_aload_n hx hb dX1_setTo_9 rfl (lv_at hl 1 rfl) ?_
  refine zg_1_1 C hs hP ha1 hk1 wf_X1_43 dX1_setTo_10 ?_
  refine kp_1_1 C hO hs hP hS ha0 hk0 wf_X1_43 hI dX1_setTo_13 (fun vi_2 H locs hI hP hS => ?_)
  refine lv_aload_n hx hb dX1_setTo_16 rfl (lv_at hl 0 rfl) ?_
  refine lv_aload_n hx hb dX1_setTo_17 rfl (lv_at hl 1 rfl) ?_
  refine zg_1_2 C hs hP ha1 hk1 wf_X1_46 dX1_setTo_18 ?_
  refine kp_1_2 C hO hs hP hS ha0 hk0 wf_X1_46 hI dX1_setTo_21 (fun vi_3 H locs hI hP hS => ?_)
  refine lv_aload_n hx hb dX1_setTo_24 rfl (lv_at hl 0 rfl) ?_
  refine lv_aload_n hx hb dX1_setTo_25 rfl (lv_at hl 1 rfl) ?_
  refine zg_1_3 C hs hP ha1 hk1 wf_X1_49 dX1_setTo_26 ?_
  refine kp_1_3 C hO hs hP hS ha0 hk0 wf_X1_49 hI dX1_setTo_29 (fun vi_4 H locs hI hP hS => ?_)
  refine lv_aload_n hx hb dX1_setTo_32 rfl (lv_at hl 0 rfl) ?_
  refine lv_aload_n hx hb dX1_setTo_33 rfl (lv_at hl 1 rfl) ?_
  refine zg_1_4 C hs hP ha1 hk1 wf_X1_68 dX1_setTo_34 ?_
  refine lv_aload_n hx hb dX1_setTo_37 rfl (lv_at hl 1 rfl) ?_
  refine zg_1_5 C hs hP ha1 hk1 wf_X1_71 dX1_setTo_38 ?_
  refine lv_aload_n hx hb dX1_setTo_41 rfl (lv_at hl 1 rfl) ?_
  refine zg_1_6 C hs hP ha1 hk1 wf_X1_74 dX1_setTo_42 ?_
  refine zcV (zrV (As := [.int (vi_4 a1 4), .int (vi_4 a1 5), .int (vi_4 a1 6)]) (b := a0) (rest := []) C hs hP hS (c_X1_setBid l D K hO vi_4 va vg hI a0 ha0 hk0 (vi_4 a1 4) (vi_4 a1 5) (vi_4 a1 6)) m_X1_setBid wm_X1_52 (zrecv hs hP ha0 (zF_1 hk0) rfl) ⟨by decide, by decide⟩ hl.1 (Nat.le_of_ble_eq_true rfl) dX1_setTo_45) hS (fun V_5 H locs p_5 hP hS => ?_)
  obtain ⟨vi_5, va_5, vg_5⟩ := V_5
  obtain ⟨hI, hg_5⟩ := p_5
  try dsimp only at hI hg_5
  replace hg_5 := hg_5.symm
  subst hg_5
  refine lv_aload_n hx hb dX1_setTo_48 rfl (lv_at hl 0 rfl) ?_
  refine lv_aload_n hx hb dX1_setTo_49 rfl (lv_at hl 1 rfl) ?_
  refine zg_1_7 C hs hP ha1 hk1 wf_X1_77 dX1_setTo_50 ?_
  refine kp_1_7 C hO hs hP hS ha0 hk0 wf_X1_77 hI dX1_setTo_53 (fun vi_6 H locs hI hP hS => ?_)
  refine lv_aload_n hx hb dX1_setTo_56 rfl (lv_at hl 0 rfl) ?_
  refine lv_aload_n hx hb dX1_setTo_57 rfl (lv_at hl 1 rfl) ?_
  refine zg_1_8 C hs hP ha1 hk1 wf_X1_56 dX1_setTo_58 ?_
  have hv_7 : 0 ≤ (vi_6 a1 8).toInt ∧ (vi_6 a1 8).toInt ≤ 15 := hI.1 _ ha1 hk1
  have g_8 := z_rng (vi_6 a1 8)
  refine kp_1_8 C hO hs hP hS ha0 hk0 wf_X1_56 hI (by refine ⟨?_, ?_⟩ <;> omega) dX1_setTo_61 (fun vi_9 H locs hI hP hS => ?_)
  refine lv_aload_n hx hb dX1_setTo_64 rfl (lv_at hl 0 rfl) ?_
  refine lv_aload_n hx hb dX1_setTo_65 rfl (lv_at hl 1 rfl) ?_
  refine zg_1_9 C hs hP ha1 hk1 wf_X1_80 dX1_setTo_66 ?_
  refine kp_1_9 C hO hs hP hS ha0 hk0 wf_X1_80 hI dX1_setTo_69 (fun vi_10 H locs hI hP hS => ?_)
  refine lv_aload_n hx hb dX1_setTo_72 rfl (lv_at hl 0 rfl) ?_
  refine lv_aload_n hx hb dX1_setTo_73 rfl (lv_at hl 1 rfl) ?_
  refine zg_1_10 C hs hP ha1 hk1 wf_X1_83 dX1_setTo_74 ?_
  refine kp_1_10 C hO hs hP hS ha0 hk0 wf_X1_83 hI dX1_setTo_77 (fun vi_11 H locs hI hP hS => ?_)
  refine lv_aload_n hx hb dX1_setTo_80 rfl (lv_at hl 1 rfl) ?_
  refine zg_1_11 C hs hP ha1 hk1 wf_X1_9 dX1_setTo_81 ?_
  have hf_12 := hO.r (j := 11) ha1 hk1 (rfl : zX 1 11 = some (20, 2))
  refine lv_aload_n hx hb dX1_setTo_84 rfl (lv_at hl 0 rfl) ?_
  refine zg_1_11 C hs hP ha0 hk0 wf_X1_9 dX1_setTo_85 ?_
  have hf_13 := hO.r (j := 11) ha0 hk0 (rfl : zX 1 11 = some (20, 2))
  refine zcV (zrSN (As := [.ref (zr K a1 11), .ref (zr K a0 11)]) (rest := []) C hs hP hS (c_X11_copy l D K hO vi_11 va_5 vg hI (zr K a1 11) hf_12.1 hf_12.2.1 (zr K a0 11) hf_13.1 hf_13.2.1) m_X11_copy (List.mem_of_getElem? (l := nw_M) (i := 3) rfl) ⟨by decide, by decide⟩ hl.1 (Nat.le_of_ble_eq_true rfl) dX1_setTo_88) hS (fun V_14 H locs p_14 hP hS => ?_)
  obtain ⟨vi_14, va_14, vg_14⟩ := V_14
  obtain ⟨hI, hg_14⟩ := p_14
  try dsimp only at hI hg_14
  replace hg_14 := hg_14.symm
  subst hg_14
  refine lv_aload_n hx hb dX1_setTo_91 rfl (lv_at hl 1 rfl) ?_
  refine zg_1_12 C hs hP ha1 hk1 wf_X1_15 dX1_setTo_92 ?_
  have hf_15 := hO.r (j := 12) ha1 hk1 (rfl : zX 1 12 = some (20, 2))
  refine lv_aload_n hx hb dX1_setTo_95 rfl (lv_at hl 0 rfl) ?_
  refine zg_1_12 C hs hP ha0 hk0 wf_X1_15 dX1_setTo_96 ?_
  have hf_16 := hO.r (j := 12) ha0 hk0 (rfl : zX 1 12 = some (20, 2))
  refine zcV (zrSN (As := [.ref (zr K a1 12), .ref (zr K a0 12)]) (rest := []) C hs hP hS (c_X11_copy l D K hO vi_14 va_14 vg hI (zr K a1 12) hf_15.1 hf_15.2.1 (zr K a0 12) hf_16.1 hf_16.2.1) m_X11_copy (List.mem_of_getElem? (l := nw_M) (i := 3) rfl) ⟨by decide, by decide⟩ hl.1 (Nat.le_of_ble_eq_true rfl) dX1_setTo_99) hS (fun V_17 H locs p_17 hP hS => ?_)
  obtain ⟨vi_17, va_17, vg_17⟩ := V_17
  obtain ⟨hI, hg_17⟩ := p_17
  try dsimp only at hI hg_17
  replace hg_17 := hg_17.symm
  subst hg_17
  refine lv_aload_n hx hb dX1_setTo_102 rfl (lv_at hl 1 rfl) ?_
  refine zg_1_13 C hs hP ha1 hk1 wf_X1_18 dX1_setTo_103 ?_
  have hf_18 := hO.r (j := 13) ha1 hk1 (rfl : zX 1 13 = some (20, 15))
  refine lv_aload_n hx hb dX1_setTo_106 rfl (lv_at hl 0 rfl) ?_
  refine zg_1_13 C hs hP ha0 hk0 wf_X1_18 dX1_setTo_107 ?_
  have hf_19 := hO.r (j := 13) ha0 hk0 (rfl : zX 1 13 = some (20, 15))
  refine zcV (zrSN (As := [.ref (zr K a1 13), .ref (zr K a0 13)]) (rest := []) C hs hP hS (c_X11_copy l D K hO vi_17 va_17 vg hI (zr K a1 13) hf_18.1 hf_18.2.1 (zr K a0 13) hf_19.1 hf_19.2.1) m_X11_copy (List.mem_of_getElem? (l := nw_M) (i := 3) rfl) ⟨by decide, by decide⟩ hl.1 (Nat.le_of_ble_eq_true rfl) dX1_setTo_110) hS (fun V_20 H locs p_20 hP hS => ?_)
  obtain ⟨vi_20, va_20, vg_20⟩ := V_20
  obtain ⟨hI, hg_20⟩ := p_20
  try dsimp only at hI hg_20
  replace hg_20 := hg_20.symm
  subst hg_20
  refine lv_aload_n hx hb dX1_setTo_113 rfl (lv_at hl 1 rfl) ?_
  refine zg_1_14 C hs hP ha1 hk1 wf_X1_21 dX1_setTo_114 ?_
  have hf_21 := hO.r (j := 14) ha1 hk1 (rfl : zX 1 14 = some (20, 15))
  refine lv_aload_n hx hb dX1_setTo_117 rfl (lv_at hl 0 rfl) ?_
  refine zg_1_14 C hs hP ha0 hk0 wf_X1_21 dX1_setTo_118 ?_
  have hf_22 := hO.r (j := 14) ha0 hk0 (rfl : zX 1 14 = some (20, 15))
  refine zcV (zrSN (As := [.ref (zr K a1 14), .ref (zr K a0 14)]) (rest := []) C hs hP hS (c_X11_copy l D K hO vi_20 va_20 vg hI (zr K a1 14) hf_21.1 hf_21.2.1 (zr K a0 14) hf_22.1 hf_22.2.1) m_X11_copy (List.mem_of_getElem? (l := nw_M) (i := 3) rfl) ⟨by decide, by decide⟩ hl.1 (Nat.le_of_ble_eq_true rfl) dX1_setTo_121) hS (fun V_23 H locs p_23 hP hS => ?_)
  obtain ⟨vi_23, va_23, vg_23⟩ := V_23
  obtain ⟨hI, hg_23⟩ := p_23
  try dsimp only at hI hg_23
  replace hg_23 := hg_23.symm
  subst hg_23
  refine lv_aload_n hx hb dX1_setTo_124 rfl (lv_at hl 1 rfl) ?_
  refine zg_1_15 C hs hP ha1 hk1 wf_X1_24 dX1_setTo_125 ?_
  have hf_24 := hO.r (j := 15) ha1 hk1 (rfl : zX 1 15 = some (20, 60))
  refine lv_aload_n hx hb dX1_setTo_128 rfl (lv_at hl 0 rfl) ?_
  refine zg_1_15 C hs hP ha0 hk0 wf_X1_24 dX1_setTo_129 ?_
  have hf_25 := hO.r (j := 15) ha0 hk0 (rfl : zX 1 15 = some (20, 60))
  refine zcV (zrSN (As := [.ref (zr K a1 15), .ref (zr K a0 15)]) (rest := []) C hs hP hS (c_X11_copy l D K hO vi_23 va_23 vg hI (zr K a1 15) hf_24.1 hf_24.2.1 (zr K a0 15) hf_25.1 hf_25.2.1) m_X11_copy (List.mem_of_getElem? (l := nw_M) (i := 3) rfl) ⟨by decide, by decide⟩ hl.1 (Nat.le_of_ble_eq_true rfl) dX1_setTo_132) hS (fun V_26 H locs p_26 hP hS => ?_)
  obtain ⟨vi_26, va_26, vg_26⟩ := V_26
  obtain ⟨hI, hg_26⟩ := p_26
  try dsimp only at hI hg_26
  replace hg_26 := hg_26.symm
  subst hg_26
  refine lv_aload_n hx hb dX1_setTo_135 rfl (lv_at hl 1 rfl) ?_
  refine zg_1_16 C hs hP ha1 hk1 wf_X1_27 dX1_setTo_136 ?_
  have hf_27 := hO.r (j := 16) ha1 hk1 (rfl : zX 1 16 = some (20, 60))
  refine lv_aload_n hx hb dX1_setTo_139 rfl (lv_at hl 0 rfl) ?_
  refine zg_1_16 C hs hP ha0 hk0 wf_X1_27 dX1_setTo_140 ?_
  have hf_28 := hO.r (j := 16) ha0 hk0 (rfl : zX 1 16 = some (20, 60))
  refine zcV (zrSN (As := [.ref (zr K a1 16), .ref (zr K a0 16)]) (rest := []) C hs hP hS (c_X11_copy l D K hO vi_26 va_26 vg hI (zr K a1 16) hf_27.1 hf_27.2.1 (zr K a0 16) hf_28.1 hf_28.2.1) m_X11_copy (List.mem_of_getElem? (l := nw_M) (i := 3) rfl) ⟨by decide, by decide⟩ hl.1 (Nat.le_of_ble_eq_true rfl) dX1_setTo_143) hS (fun V_29 H locs p_29 hP hS => ?_)
  obtain ⟨vi_29, va_29, vg_29⟩ := V_29
  obtain ⟨hI, hg_29⟩ := p_29
  try dsimp only at hI hg_29
  replace hg_29 := hg_29.symm
  subst hg_29
  refine lv_aload_n hx hb dX1_setTo_146 rfl (lv_at hl 0 rfl) ?_
  refine zg_1_17 C hs hP ha0 hk0 wf_X1_35 dX1_setTo_147 ?_
  have hf_30 := hO.r (j := 17) ha0 hk0 (rfl : zX 1 17 = some (7, 0))
  refine lv_aload_n hx hb dX1_setTo_150 rfl (lv_at hl 1 rfl) ?_
  refine zg_1_17 C hs hP ha1 hk1 wf_X1_35 dX1_setTo_151 ?_
  have hf_31 := hO.r (j := 17) ha1 hk1 (rfl : zX 1 17 = some (7, 0))
  refine zcV (zrV (As := [.ref (zr K a1 17)]) (b := zr K a0 17) (rest := []) C hs hP hS (c_X8_setTo l D K hO vi_29 va_29 vg hI (zr K a0 17) hf_30.1 hf_30.2.1 (zr K a1 17) hf_31.1 hf_31.2.1) m_X8_setTo wm_X1_90 (zrecv hs hP hf_30.1 (zF_7 hf_30.2.1) rfl) ⟨by decide, by decide⟩ hl.1 (Nat.le_of_ble_eq_true rfl) dX1_setTo_154) hS (fun V_32 H locs p_32 hP hS => ?_)
  obtain ⟨vi_32, va_32, vg_32⟩ := V_32
  obtain ⟨hI, hg_32⟩ := p_32
  try dsimp only at hI hg_32
  replace hg_32 := hg_32.symm
  subst hg_32
  exact zaV hQ hx hb hr hlk hP hS ⟨hI, rfl⟩ dX1_setTo_157
set_option maxHeartbeats 4000000 in
set_option maxRecDepth 100000 in
theorem c_X1_addTrick (l : Launch) (D : va_G) (K : zK) (hO : zOk K) (vi va : Nat → Nat → Int32) (vg : Nat → Nat → Option Nat) (hI : zI K (vi, va, vg)) (a0 : Nat) (ha0 : a0 ∈ zl K) (hk0 : zk K a0 = 1) (x1 : Int32) (x2 : Int32) : Met l yX1_addTrick (zc yX1_addTrick cX1_addTrick 3 none) (rmd 1) (va_Pc [.ref a0, .int x1, .int x2] (zB D K (vi, va, vg))) (zQv D K (fun V' => zI K V' ∧ V'.2.2 = vg)) 0 0 (zA K) := by
  refine zin (by decide) (Nat.le_of_ble_eq_true rfl) ?_
  intro p e s m args below meth c ls Q hQ C hr hlk hP hs hl
  have C : CallFix p m c cX1_addTrick 3 s args zw RX1 := C
  obtain ⟨hx, hb, hml, hown, hts⟩ := id C
  have hS : va_S (zA K) s.heap s.heap [] := va_S.rf
  have hl : lv_has ls 3 [(0, .ref a0), (1, .int x1), (2, .int x2)] := hl
  refine lv_aload_n hx hb dX1_addTrick_0 rfl (lv_at hl 0 rfl) ?_
  refine zg_1_8 C hs hP ha0 hk0 wf_X1_56 dX1_addTrick_1 ?_
  have hv_1 : 0 ≤ (vi a0 8).toInt ∧ (vi a0 8).toInt ≤ 15 := hI.1 _ ha0 hk0
  refine lv_bipush (v := 15) hx hb dX1_addTrick_4 (by decide) ?_
  refine bi_ge (tgt := 66) hx hb rfl ti_15 dX1_addTrick_6 (by decide) (fun c_2 => ?_) (fun c_2 => ?_)
  · skip
    exact zaV hQ hx hb hr hlk hP hS ⟨hI, rfl⟩ dX1_addTrick_66
  · skip
    refine lv_iload_n hx hb dX1_addTrick_9 rfl (lv_at hl 1 rfl) ?_
    refine zcS (zrSN (As := [.int x1]) (rest := []) C hs hP hS (c_X11_isSide l D K hO vi va vg hI x1) m_X11_isSide (List.mem_of_getElem? (l := nw_M) (i := 6) rfl) ⟨by decide, by decide⟩ hl.1 (Nat.le_of_ble_eq_true rfl) dX1_addTrick_10) (fun x_3 p_3 => ?_)
    have pp_3 : (x_3.toInt ≠ 0 → 0 ≤ x1.toInt ∧ x1.toInt ≤ 1) := p_3.2
    refine bz_eq (tgt := 66) hx hb rfl dX1_addTrick_13 (by decide) (fun c_4 => ?_) (fun c_4 => ?_)
    · skip
      exact zaV hQ hx hb hr hlk hP hS ⟨hI, rfl⟩ dX1_addTrick_66
    · skip
      refine lv_aload_n hx hb dX1_addTrick_16 rfl (lv_at hl 0 rfl) ?_
      refine zg_1_13 C hs hP ha0 hk0 wf_X1_18 dX1_addTrick_17 ?_
      have hf_5 := hO.r (j := 13) ha0 hk0 (rfl : zX 1 13 = some (20, 15))
      refine lv_aload_n hx hb dX1_addTrick_20 rfl (lv_at hl 0 rfl) ?_
      refine zg_1_8 C hs hP ha0 hk0 wf_X1_56 dX1_addTrick_21 ?_
      refine lv_iload_n hx hb dX1_addTrick_24 rfl (lv_at hl 1 rfl) ?_
      have g_7 := z_rng (vi a0 8)
      have hin_6 : vp_in (vi a0 8) (zn K (zr K a0 13)) := vp_in_iff.mpr (by rw [(hf_5.2.2 (by decide))]; refine ⟨?_, ?_⟩ <;> omega)
      refine ks_20 C hO hs hP hS hf_5.1 hf_5.2.1 hI hin_6 dX1_addTrick_25 (fun va_8 H locs hI hP hS => ?_)
      refine lv_aload_n hx hb dX1_addTrick_26 rfl (lv_at hl 0 rfl) ?_
      refine zg_1_14 C hs hP ha0 hk0 wf_X1_21 dX1_addTrick_27 ?_
      have hf_9 := hO.r (j := 14) ha0 hk0 (rfl : zX 1 14 = some (20, 15))
      refine lv_aload_n hx hb dX1_addTrick_30 rfl (lv_at hl 0 rfl) ?_
      refine zg_1_8 C hs hP ha0 hk0 wf_X1_56 dX1_addTrick_31 ?_
      refine lv_iload_n hx hb dX1_addTrick_34 rfl (lv_at hl 2 rfl) ?_
      have hin_10 : vp_in (vi a0 8) (zn K (zr K a0 14)) := vp_in_iff.mpr (by rw [(hf_9.2.2 (by decide))]; refine ⟨?_, ?_⟩ <;> omega)
      refine ks_20 C hO hs hP hS hf_9.1 hf_9.2.1 hI hin_10 dX1_addTrick_35 (fun va_11 H locs hI hP hS => ?_)
      refine lv_aload_n hx hb dX1_addTrick_36 rfl (lv_at hl 0 rfl) ?_
      refine lv_dup hx hb dX1_addTrick_37 rfl ?_
      refine zg_1_8 C hs hP ha0 hk0 wf_X1_56 dX1_addTrick_38 ?_
      refine lv_iconst (v := 1) hx hb dX1_addTrick_41 (by decide) ?_
      refine lv_iadd hx hb dX1_addTrick_42 ?_
      refine lv_topi (fun x_12 ex_12 => ?_)
      obtain ⟨f_12, l_12, u_12⟩ := z_add ex_12 rfl ti_1
      refine kp_1_8 C hO hs hP hS ha0 hk0 wf_X1_56 hI (by refine ⟨?_, ?_⟩ <;> omega) dX1_addTrick_43 (fun vi_13 H locs hI hP hS => ?_)
      refine lv_aload_n hx hb dX1_addTrick_46 rfl (lv_at hl 0 rfl) ?_
      refine zg_1_11 C hs hP ha0 hk0 wf_X1_9 dX1_addTrick_47 ?_
      have hf_14 := hO.r (j := 11) ha0 hk0 (rfl : zX 1 11 = some (20, 2))
      refine lv_iload_n hx hb dX1_addTrick_50 rfl (lv_at hl 1 rfl) ?_
      refine lv_dup2_11 hx hb dX1_addTrick_51 rfl rfl ?_
      have g_16 := z_rng x1
      have hin_15 : vp_in x1 (zn K (zr K a0 11)) := vp_in_iff.mpr (by rw [(hf_14.2.2 (by decide))]; refine ⟨?_, ?_⟩ <;> omega)
      refine zld_20 C hs hP hf_14.1 hf_14.2.1 hin_15 dX1_addTrick_52 ?_
      refine lv_iconst (v := 1) hx hb dX1_addTrick_53 (by decide) ?_
      refine lv_iadd hx hb dX1_addTrick_54 ?_
      refine lv_topi (fun x_17 ex_17 => ?_)
      have hin_18 : vp_in x1 (zn K (zr K a0 11)) := vp_in_iff.mpr (by rw [(hf_14.2.2 (by decide))]; refine ⟨?_, ?_⟩ <;> omega)
      refine ks_20 C hO hs hP hS hf_14.1 hf_14.2.1 hI hin_18 dX1_addTrick_55 (fun va_19 H locs hI hP hS => ?_)
      refine lv_aload_n hx hb dX1_addTrick_56 rfl (lv_at hl 0 rfl) ?_
      refine zg_1_12 C hs hP ha0 hk0 wf_X1_15 dX1_addTrick_57 ?_
      have hf_20 := hO.r (j := 12) ha0 hk0 (rfl : zX 1 12 = some (20, 2))
      refine lv_iload_n hx hb dX1_addTrick_60 rfl (lv_at hl 1 rfl) ?_
      refine lv_dup2_11 hx hb dX1_addTrick_61 rfl rfl ?_
      have hin_21 : vp_in x1 (zn K (zr K a0 12)) := vp_in_iff.mpr (by rw [(hf_20.2.2 (by decide))]; refine ⟨?_, ?_⟩ <;> omega)
      refine zld_20 C hs hP hf_20.1 hf_20.2.1 hin_21 dX1_addTrick_62 ?_
      refine lv_iload_n hx hb dX1_addTrick_63 rfl (lv_at hl 2 rfl) ?_
      refine lv_iadd hx hb dX1_addTrick_64 ?_
      refine lv_topi (fun x_22 ex_22 => ?_)
      have hin_23 : vp_in x1 (zn K (zr K a0 12)) := vp_in_iff.mpr (by rw [(hf_20.2.2 (by decide))]; refine ⟨?_, ?_⟩ <;> omega)
      refine ks_20 C hO hs hP hS hf_20.1 hf_20.2.1 hI hin_23 dX1_addTrick_65 (fun va_24 H locs hI hP hS => ?_)
      exact zaV hQ hx hb hr hlk hP hS ⟨hI, rfl⟩ dX1_addTrick_66
set_option maxHeartbeats 4000000 in
set_option maxRecDepth 100000 in
theorem c_X1_moveTrick (l : Launch) (D : va_G) (K : zK) (hO : zOk K) (vi va : Nat → Nat → Int32) (vg : Nat → Nat → Option Nat) (hI : zI K (vi, va, vg)) (a0 : Nat) (ha0 : a0 ∈ zl K) (hk0 : zk K a0 = 1) (x1 : Int32) (x2 : Int32) : Met l yX1_moveTrick (zc yX1_moveTrick cX1_moveTrick 3 none) (rmd 1) (va_Pc [.ref a0, .int x1, .int x2] (zB D K (vi, va, vg))) (zQv D K (fun V' => zI K V' ∧ V'.2.2 = vg)) 0 0 (zA K) := by
  refine zin (by decide) (Nat.le_of_ble_eq_true rfl) ?_
  intro p e s m args below meth c ls Q hQ C hr hlk hP hs hl
  have C : CallFix p m c cX1_moveTrick 3 s args zw RX1 := C
  obtain ⟨hx, hb, hml, hown, hts⟩ := id C
  have hS : va_S (zA K) s.heap s.heap [] := va_S.rf
  have hl : lv_has ls 3 [(0, .ref a0), (1, .int x1), (2, .int x2)] := hl
  refine lv_iload_n hx hb dX1_moveTrick_0 rfl (lv_at hl 1 rfl) ?_
  refine bz_lt (tgt := 78) hx hb rfl dX1_moveTrick_1 (by decide) (fun c_1 => ?_) (fun c_1 => ?_)
  · skip
    exact zaV hQ hx hb hr hlk hP hS ⟨hI, rfl⟩ dX1_moveTrick_78
  · skip
    refine lv_iload_n hx hb dX1_moveTrick_4 rfl (lv_at hl 1 rfl) ?_
    refine lv_bipush (v := 15) hx hb dX1_moveTrick_5 (by decide) ?_
    refine bi_ge (tgt := 78) hx hb rfl ti_15 dX1_moveTrick_7 (by decide) (fun c_2 => ?_) (fun c_2 => ?_)
    · skip
      exact zaV hQ hx hb hr hlk hP hS ⟨hI, rfl⟩ dX1_moveTrick_78
    · skip
      refine lv_iload_n hx hb dX1_moveTrick_10 rfl (lv_at hl 2 rfl) ?_
      refine zcS (zrSN (As := [.int x2]) (rest := []) C hs hP hS (c_X11_isSide l D K hO vi va vg hI x2) m_X11_isSide (List.mem_of_getElem? (l := nw_M) (i := 6) rfl) ⟨by decide, by decide⟩ hl.1 (Nat.le_of_ble_eq_true rfl) dX1_moveTrick_11) (fun x_3 p_3 => ?_)
      have pp_3 : (x_3.toInt ≠ 0 → 0 ≤ x2.toInt ∧ x2.toInt ≤ 1) := p_3.2
      refine bz_eq (tgt := 78) hx hb rfl dX1_moveTrick_14 (by decide) (fun c_4 => ?_) (fun c_4 => ?_)
      · skip
        exact zaV hQ hx hb hr hlk hP hS ⟨hI, rfl⟩ dX1_moveTrick_78
      · skip
        refine lv_aload_n hx hb dX1_moveTrick_17 rfl (lv_at hl 0 rfl) ?_
        refine zg_1_13 C hs hP ha0 hk0 wf_X1_18 dX1_moveTrick_18 ?_
        have hf_5 := hO.r (j := 13) ha0 hk0 (rfl : zX 1 13 = some (20, 15))
        refine lv_iload_n hx hb dX1_moveTrick_21 rfl (lv_at hl 1 rfl) ?_
        refine lv_iload_n hx hb dX1_moveTrick_22 rfl (lv_at hl 2 rfl) ?_
        have g_7 := z_rng x1
        have hin_6 : vp_in x1 (zn K (zr K a0 13)) := vp_in_iff.mpr (by rw [(hf_5.2.2 (by decide))]; refine ⟨?_, ?_⟩ <;> omega)
        refine ks_20 C hO hs hP hS hf_5.1 hf_5.2.1 hI hin_6 dX1_moveTrick_23 (fun va_8 H locs hI hP hS => ?_)
        refine lv_aload_n hx hb dX1_moveTrick_24 rfl (lv_at hl 0 rfl) ?_
        refine zg_1_11 C hs hP ha0 hk0 wf_X1_9 dX1_moveTrick_25 ?_
        have hf_9 := hO.r (j := 11) ha0 hk0 (rfl : zX 1 11 = some (20, 2))
        refine lv_iload_n hx hb dX1_moveTrick_28 rfl (lv_at hl 2 rfl) ?_
        refine lv_dup2_11 hx hb dX1_moveTrick_29 rfl rfl ?_
        have g_11 := z_rng x2
        have hin_10 : vp_in x2 (zn K (zr K a0 11)) := vp_in_iff.mpr (by rw [(hf_9.2.2 (by decide))]; refine ⟨?_, ?_⟩ <;> omega)
        refine zld_20 C hs hP hf_9.1 hf_9.2.1 hin_10 dX1_moveTrick_30 ?_
        refine lv_iconst (v := 1) hx hb dX1_moveTrick_31 (by decide) ?_
        refine lv_iadd hx hb dX1_moveTrick_32 ?_
        refine lv_topi (fun x_12 ex_12 => ?_)
        have hin_13 : vp_in x2 (zn K (zr K a0 11)) := vp_in_iff.mpr (by rw [(hf_9.2.2 (by decide))]; refine ⟨?_, ?_⟩ <;> omega)
        refine ks_20 C hO hs hP hS hf_9.1 hf_9.2.1 hI hin_13 dX1_moveTrick_33 (fun va_14 H locs hI hP hS => ?_)
        refine lv_aload_n hx hb dX1_moveTrick_34 rfl (lv_at hl 0 rfl) ?_
        refine zg_1_12 C hs hP ha0 hk0 wf_X1_15 dX1_moveTrick_35 ?_
        have hf_15 := hO.r (j := 12) ha0 hk0 (rfl : zX 1 12 = some (20, 2))
        refine lv_iload_n hx hb dX1_moveTrick_38 rfl (lv_at hl 2 rfl) ?_
        refine lv_dup2_11 hx hb dX1_moveTrick_39 rfl rfl ?_
        have hin_16 : vp_in x2 (zn K (zr K a0 12)) := vp_in_iff.mpr (by rw [(hf_15.2.2 (by decide))]; refine ⟨?_, ?_⟩ <;> omega)
        refine zld_20 C hs hP hf_15.1 hf_15.2.1 hin_16 dX1_moveTrick_40 ?_
        refine lv_aload_n hx hb dX1_moveTrick_41 rfl (lv_at hl 0 rfl) ?_
        refine zg_1_14 C hs hP ha0 hk0 wf_X1_21 dX1_moveTrick_42 ?_
        have hf_17 := hO.r (j := 14) ha0 hk0 (rfl : zX 1 14 = some (20, 15))
        refine lv_iload_n hx hb dX1_moveTrick_45 rfl (lv_at hl 1 rfl) ?_
        have hin_18 : vp_in x1 (zn K (zr K a0 14)) := vp_in_iff.mpr (by rw [(hf_17.2.2 (by decide))]; refine ⟨?_, ?_⟩ <;> omega)
        refine zld_20 C hs hP hf_17.1 hf_17.2.1 hin_18 dX1_moveTrick_46 ?_
        refine lv_iadd hx hb dX1_moveTrick_47 ?_
        refine lv_topi (fun x_19 ex_19 => ?_)
        have hin_20 : vp_in x2 (zn K (zr K a0 12)) := vp_in_iff.mpr (by rw [(hf_15.2.2 (by decide))]; refine ⟨?_, ?_⟩ <;> omega)
        refine ks_20 C hO hs hP hS hf_15.1 hf_15.2.1 hI hin_20 dX1_moveTrick_48 (fun va_21 H locs hI hP hS => ?_)
        refine lv_aload_n hx hb dX1_moveTrick_49 rfl (lv_at hl 0 rfl) ?_
        refine zg_1_11 C hs hP ha0 hk0 wf_X1_9 dX1_moveTrick_50 ?_
        refine lv_iconst (v := 1) hx hb dX1_moveTrick_53 (by decide) ?_
        refine lv_iload_n hx hb dX1_moveTrick_54 rfl (lv_at hl 2 rfl) ?_
        refine lv_isub hx hb dX1_moveTrick_55 ?_
        refine lv_topi (fun x_22 ex_22 => ?_)
        refine lv_dup2_11 hx hb dX1_moveTrick_56 rfl rfl ?_
        obtain ⟨f_22, l_22, u_22⟩ := z_sub ex_22 ti_1 rfl
        have hin_23 : vp_in x_22 (zn K (zr K a0 11)) := vp_in_iff.mpr (by rw [(hf_9.2.2 (by decide))]; refine ⟨?_, ?_⟩ <;> omega)
        refine zld_20 C hs hP hf_9.1 hf_9.2.1 hin_23 dX1_moveTrick_57 ?_
        refine lv_iconst (v := 1) hx hb dX1_moveTrick_58 (by decide) ?_
        refine lv_isub hx hb dX1_moveTrick_59 ?_
        refine lv_topi (fun x_24 ex_24 => ?_)
        have hin_25 : vp_in x_22 (zn K (zr K a0 11)) := vp_in_iff.mpr (by rw [(hf_9.2.2 (by decide))]; refine ⟨?_, ?_⟩ <;> omega)
        refine ks_20 C hO hs hP hS hf_9.1 hf_9.2.1 hI hin_25 dX1_moveTrick_60 (fun va_26 H locs hI hP hS => ?_)
        refine lv_aload_n hx hb dX1_moveTrick_61 rfl (lv_at hl 0 rfl) ?_
        refine zg_1_12 C hs hP ha0 hk0 wf_X1_15 dX1_moveTrick_62 ?_
        refine lv_iconst (v := 1) hx hb dX1_moveTrick_65 (by decide) ?_
        refine lv_iload_n hx hb dX1_moveTrick_66 rfl (lv_at hl 2 rfl) ?_
        refine lv_isub hx hb dX1_moveTrick_67 ?_
        refine lv_topi (fun x_27 ex_27 => ?_)
        refine lv_dup2_11 hx hb dX1_moveTrick_68 rfl rfl ?_
        obtain ⟨f_27, l_27, u_27⟩ := z_sub ex_27 ti_1 rfl
        have hin_28 : vp_in x_27 (zn K (zr K a0 12)) := vp_in_iff.mpr (by rw [(hf_15.2.2 (by decide))]; refine ⟨?_, ?_⟩ <;> omega)
        refine zld_20 C hs hP hf_15.1 hf_15.2.1 hin_28 dX1_moveTrick_69 ?_
        refine lv_aload_n hx hb dX1_moveTrick_70 rfl (lv_at hl 0 rfl) ?_
        refine zg_1_14 C hs hP ha0 hk0 wf_X1_21 dX1_moveTrick_71 ?_
        refine lv_iload_n hx hb dX1_moveTrick_74 rfl (lv_at hl 1 rfl) ?_
        have hin_29 : vp_in x1 (zn K (zr K a0 14)) := vp_in_iff.mpr (by rw [(hf_17.2.2 (by decide))]; refine ⟨?_, ?_⟩ <;> omega)
        refine zld_20 C hs hP hf_17.1 hf_17.2.1 hin_29 dX1_moveTrick_75 ?_
        refine lv_isub hx hb dX1_moveTrick_76 ?_
        refine lv_topi (fun x_30 ex_30 => ?_)
        have hin_31 : vp_in x_27 (zn K (zr K a0 12)) := vp_in_iff.mpr (by rw [(hf_15.2.2 (by decide))]; refine ⟨?_, ?_⟩ <;> omega)
        refine ks_20 C hO hs hP hS hf_15.1 hf_15.2.1 hI hin_31 dX1_moveTrick_77 (fun va_32 H locs hI hP hS => ?_)
        exact zaV hQ hx hb hr hlk hP hS ⟨hI, rfl⟩ dX1_moveTrick_78
set_option maxHeartbeats 4000000 in
set_option maxRecDepth 100000 in
theorem c_X1_deny (l : Launch) (D : va_G) (K : zK) (hO : zOk K) (vi va : Nat → Nat → Int32) (vg : Nat → Nat → Option Nat) (hI : zI K (vi, va, vg)) (a0 : Nat) (ha0 : a0 ∈ zl K) (hk0 : zk K a0 = 1) (x1 : Int32) (x2 : Int32) : Met l yX1_deny (zc yX1_deny cX1_deny 3 none) (rmd 1) (va_Pc [.ref a0, .int x1, .int x2] (zB D K (vi, va, vg))) (zQv D K (fun V' => zI K V' ∧ V'.2.2 = vg)) 0 0 (zA K) := by
  refine zin (by decide) (Nat.le_of_ble_eq_true rfl) ?_
  intro p e s m args below meth c ls Q hQ C hr hlk hP hs hl
  have C : CallFix p m c cX1_deny 3 s args zw RX1 := C
  obtain ⟨hx, hb, hml, hown, hts⟩ := id C
  have hS : va_S (zA K) s.heap s.heap [] := va_S.rf
  have hl : lv_has ls 3 [(0, .ref a0), (1, .int x1), (2, .int x2)] := hl
  refine lv_iload_n hx hb dX1_deny_0 rfl (lv_at hl 1 rfl) ?_
  refine zcS (zrSN (As := [.int x1]) (rest := []) C hs hP hS (c_X11_isSeat l D K hO vi va vg hI x1) m_X11_isSeat (List.mem_of_getElem? (l := nw_M) (i := 5) rfl) ⟨by decide, by decide⟩ hl.1 (Nat.le_of_ble_eq_true rfl) dX1_deny_1) (fun x_1 p_1 => ?_)
  have pp_1 : (x_1.toInt ≠ 0 → 0 ≤ x1.toInt ∧ x1.toInt ≤ 3) := p_1.2
  refine bz_eq (tgt := 31) hx hb rfl dX1_deny_4 (by decide) (fun c_2 => ?_) (fun c_2 => ?_)
  · skip
    exact zaV hQ hx hb hr hlk hP hS ⟨hI, rfl⟩ dX1_deny_31
  · skip
    refine lv_aload_n hx hb dX1_deny_7 rfl (lv_at hl 0 rfl) ?_
    refine zg_1_8 C hs hP ha0 hk0 wf_X1_56 dX1_deny_8 ?_
    have hv_3 : 0 ≤ (vi a0 8).toInt ∧ (vi a0 8).toInt ≤ 15 := hI.1 _ ha0 hk0
    refine lv_bipush (v := 15) hx hb dX1_deny_11 (by decide) ?_
    refine bi_ge (tgt := 31) hx hb rfl ti_15 dX1_deny_13 (by decide) (fun c_4 => ?_) (fun c_4 => ?_)
    · skip
      exact zaV hQ hx hb hr hlk hP hS ⟨hI, rfl⟩ dX1_deny_31
    · skip
      refine lv_aload_n hx hb dX1_deny_16 rfl (lv_at hl 0 rfl) ?_
      refine zg_1_16 C hs hP ha0 hk0 wf_X1_27 dX1_deny_17 ?_
      have hf_5 := hO.r (j := 16) ha0 hk0 (rfl : zX 1 16 = some (20, 60))
      refine lv_iload_n hx hb dX1_deny_20 rfl (lv_at hl 1 rfl) ?_
      refine lv_bipush (v := 15) hx hb dX1_deny_21 (by decide) ?_
      refine lv_imul hx hb dX1_deny_23 ?_
      refine lv_topi (fun x_6 ex_6 => ?_)
      refine lv_aload_n hx hb dX1_deny_24 rfl (lv_at hl 0 rfl) ?_
      refine zg_1_8 C hs hP ha0 hk0 wf_X1_56 dX1_deny_25 ?_
      refine lv_iadd hx hb dX1_deny_28 ?_
      refine lv_topi (fun x_7 ex_7 => ?_)
      refine lv_iload_n hx hb dX1_deny_29 rfl (lv_at hl 2 rfl) ?_
      have g_9 := z_rng x1
      obtain ⟨f_6, l_6, u_6⟩ := z_mul ex_6 rfl ti_15
      have g_10 := z_rng (vi a0 8)
      obtain ⟨f_7, l_7, u_7⟩ := z_add ex_7 rfl rfl
      have hin_8 : vp_in x_7 (zn K (zr K a0 16)) := vp_in_iff.mpr (by rw [(hf_5.2.2 (by decide))]; refine ⟨?_, ?_⟩ <;> omega)
      refine ks_20 C hO hs hP hS hf_5.1 hf_5.2.1 hI hin_8 dX1_deny_30 (fun va_11 H locs hI hP hS => ?_)
      exact zaV hQ hx hb hr hlk hP hS ⟨hI, rfl⟩ dX1_deny_31
set_option maxHeartbeats 4000000 in
set_option maxRecDepth 100000 in
theorem c_X1_findRevoke (l : Launch) (D : va_G) (K : zK) (hO : zOk K) (vi va : Nat → Nat → Int32) (vg : Nat → Nat → Option Nat) (hI : zI K (vi, va, vg)) (a0 : Nat) (ha0 : a0 ∈ zl K) (hk0 : zk K a0 = 1) (x1 : Int32) (x2 : Int32) : Met l yX1_findRevoke (zc yX1_findRevoke cX1_findRevoke 4 (some .int)) (rmd 1) (va_Pc [.ref a0, .int x1, .int x2] (zB D K (vi, va, vg))) (zQi D K (fun r V' => zI K V' ∧ V'.2.2 = vg)) 0 0 (zA K) := by
  refine zin (by decide) (Nat.le_of_ble_eq_true rfl) ?_
  intro p e s m args below meth c ls Q hQ C hr hlk hP hs hl
  have C : CallFix p m c cX1_findRevoke 4 s args zw RX1 := C
  obtain ⟨hx, hb, hml, hown, hts⟩ := id C
  have hS : va_S (zA K) s.heap s.heap [] := va_S.rf
  have hl : lv_has ls 4 [(0, .ref a0), (1, .int x1), (2, .int x2)] := hl
  refine lv_iconst (v := 0) hx hb dX1_findRevoke_0 (by decide) ?_
  refine lv_istore_n (lv' := [(3, .int 0), (0, .ref a0), (1, .int x1), (2, .int x2)]) hx hb dX1_findRevoke_1 rfl hl (by decide) rfl (fun ls hl => ?_)
  have L_2_2 : ∀ (n_2 : Nat) (y_1 : Int32) (ls : Array Slot), (2147483648 - y_1.toInt).toNat < n_2 → 0 ≤ y_1.toInt → lv_has ls 4 [(3, .int y_1), (0, .ref a0), (1, .int x1), (2, .int x2)] → W p l e (rmd 1) s m args below meth c s.heap [] 0 0 Q (F0 m 2 ls []) := by
    intro n_2
    induction n_2 with
    | zero => intro y_1 ls hm_2; exact absurd hm_2 (Nat.not_lt_zero _)
    | succ n_2 ih_2 =>
      intro y_1 ls hm_2 iv_3_0 hl
      refine lv_iload_n hx hb dX1_findRevoke_2 rfl (lv_at hl 0 rfl) ?_
      refine lv_aload_n hx hb dX1_findRevoke_3 rfl (lv_at hl 1 rfl) ?_
      refine zg_1_8 C hs hP ha0 hk0 wf_X1_56 dX1_findRevoke_4 ?_
      have hv_4 : 0 ≤ (vi a0 8).toInt ∧ (vi a0 8).toInt ≤ 15 := hI.1 _ ha0 hk0
      refine bi_ge (tgt := 59) hx hb rfl rfl dX1_findRevoke_7 (by decide) (fun c_5 => ?_) (fun c_5 => ?_)
      · skip
        refine lv_iconst (v := (-1)) hx hb dX1_findRevoke_59 (by decide) ?_
        exact zaI hQ hx hb hr hlk hP hS ⟨hI, rfl⟩ dX1_findRevoke_60
      · skip
        refine lv_iload_n hx hb dX1_findRevoke_10 rfl (lv_at hl 0 rfl) ?_
        refine lv_bipush (v := 15) hx hb dX1_findRevoke_11 (by decide) ?_
        refine bi_ge (tgt := 59) hx hb rfl ti_15 dX1_findRevoke_13 (by decide) (fun c_6 => ?_) (fun c_6 => ?_)
        · skip
          refine lv_iconst (v := (-1)) hx hb dX1_findRevoke_59 (by decide) ?_
          exact zaI hQ hx hb hr hlk hP hS ⟨hI, rfl⟩ dX1_findRevoke_60
        · skip
          refine lv_iload_n hx hb dX1_findRevoke_16 rfl (lv_at hl 2 rfl) ?_
          refine zcS (zrSN (As := [.int x1]) (rest := []) C hs hP hS (c_X11_isSeat l D K hO vi va vg hI x1) m_X11_isSeat (List.mem_of_getElem? (l := nw_M) (i := 5) rfl) ⟨by decide, by decide⟩ hl.1 (Nat.le_of_ble_eq_true rfl) dX1_findRevoke_17) (fun x_7 p_7 => ?_)
          have pp_7 : (x_7.toInt ≠ 0 → 0 ≤ x1.toInt ∧ x1.toInt ≤ 3) := p_7.2
          refine bz_eq (tgt := 59) hx hb rfl dX1_findRevoke_20 (by decide) (fun c_8 => ?_) (fun c_8 => ?_)
          · skip
            refine lv_iconst (v := (-1)) hx hb dX1_findRevoke_59 (by decide) ?_
            exact zaI hQ hx hb hr hlk hP hS ⟨hI, rfl⟩ dX1_findRevoke_60
          · skip
            refine lv_aload_n hx hb dX1_findRevoke_23 rfl (lv_at hl 1 rfl) ?_
            refine zg_1_16 C hs hP ha0 hk0 wf_X1_27 dX1_findRevoke_24 ?_
            have hf_9 := hO.r (j := 16) ha0 hk0 (rfl : zX 1 16 = some (20, 60))
            refine lv_iload_n hx hb dX1_findRevoke_27 rfl (lv_at hl 2 rfl) ?_
            refine lv_bipush (v := 15) hx hb dX1_findRevoke_28 (by decide) ?_
            refine lv_imul hx hb dX1_findRevoke_30 ?_
            refine lv_topi (fun x_10 ex_10 => ?_)
            refine lv_iload_n hx hb dX1_findRevoke_31 rfl (lv_at hl 0 rfl) ?_
            refine lv_iadd hx hb dX1_findRevoke_32 ?_
            refine lv_topi (fun x_11 ex_11 => ?_)
            have g_13 := z_rng x1
            obtain ⟨f_10, l_10, u_10⟩ := z_mul ex_10 rfl ti_15
            have g_14 := z_rng y_1
            obtain ⟨f_11, l_11, u_11⟩ := z_add ex_11 rfl rfl
            have hin_12 : vp_in x_11 (zn K (zr K a0 16)) := vp_in_iff.mpr (by rw [(hf_9.2.2 (by decide))]; refine ⟨?_, ?_⟩ <;> omega)
            refine zld_20 C hs hP hf_9.1 hf_9.2.1 hin_12 dX1_findRevoke_33 ?_
            refine lv_iload_n hx hb dX1_findRevoke_34 rfl (lv_at hl 3 rfl) ?_
            refine bi_ne (tgt := 53) hx hb rfl rfl dX1_findRevoke_35 (by decide) (fun c_15 => ?_) (fun c_15 => ?_)
            · skip
              obtain ⟨x_16, ex_16⟩ : ∃ y : Int32, y = y_1 + 1 := ⟨_, rfl⟩
              refine lv_iinc (v := x_16) (lv' := [(3, .int x_16), (0, .ref a0), (1, .int x1), (2, .int x2)]) hx hb dX1_findRevoke_53 hl (k := 0) rfl (by rw [ex_16]; rfl) (by decide) rfl (fun ls hl => ?_)
              refine lv_goto (tgt := 2) hx hb dX1_findRevoke_56 (by decide) ?_
              obtain ⟨f_16, l_16, u_16⟩ := z_add ex_16 rfl ti_1
              have g_17 := z_rng x_7
              have g_18 := z_rng (vi a0 8)
              have g_19 := z_rng (va (zr K a0 16) x_11.toNatClampNeg)
              have g_20 := z_rng x2
              exact ih_2 x_16 _ (by omega) (by omega) (lv_sub hl [0, 1, 2, 3] rfl)
            · skip
              refine lv_aload_n hx hb dX1_findRevoke_38 rfl (lv_at hl 1 rfl) ?_
              refine zg_1_16 C hs hP ha0 hk0 wf_X1_27 dX1_findRevoke_39 ?_
              refine lv_iload_n hx hb dX1_findRevoke_42 rfl (lv_at hl 2 rfl) ?_
              refine lv_bipush (v := 15) hx hb dX1_findRevoke_43 (by decide) ?_
              refine lv_imul hx hb dX1_findRevoke_45 ?_
              refine lv_topi (fun x_21 ex_21 => ?_)
              refine lv_iload_n hx hb dX1_findRevoke_46 rfl (lv_at hl 0 rfl) ?_
              refine lv_iadd hx hb dX1_findRevoke_47 ?_
              refine lv_topi (fun x_22 ex_22 => ?_)
              refine lv_bipush (v := 9) hx hb dX1_findRevoke_48 (by decide) ?_
              obtain ⟨f_21, l_21, u_21⟩ := z_mul ex_21 rfl ti_15
              obtain ⟨f_22, l_22, u_22⟩ := z_add ex_22 rfl rfl
              have hin_23 : vp_in x_22 (zn K (zr K a0 16)) := vp_in_iff.mpr (by rw [(hf_9.2.2 (by decide))]; refine ⟨?_, ?_⟩ <;> omega)
              refine ks_20 C hO hs hP hS hf_9.1 hf_9.2.1 hI hin_23 dX1_findRevoke_50 (fun va_24 H locs hI hP hS => ?_)
              refine lv_iload_n hx hb dX1_findRevoke_51 rfl (lv_at hl 0 rfl) ?_
              exact zaI hQ hx hb hr hlk hP hS ⟨hI, rfl⟩ dX1_findRevoke_52
  exact L_2_2 _ 0 _ (Nat.lt_succ_self _) (by simp only [ti_0]; omega) (lv_sub hl [0, 1, 2, 3] rfl)
set_option maxHeartbeats 4000000 in
set_option maxRecDepth 100000 in
theorem c_X1_revokesOf (l : Launch) (D : va_G) (K : zK) (hO : zOk K) (vi va : Nat → Nat → Int32) (vg : Nat → Nat → Option Nat) (hI : zI K (vi, va, vg)) (a0 : Nat) (ha0 : a0 ∈ zl K) (hk0 : zk K a0 = 1) (x1 : Int32) (x2 : Int32) : Met l yX1_revokesOf (zc yX1_revokesOf cX1_revokesOf 6 (some .int)) (rmd 1) (va_Pc [.ref a0, .int x1, .int x2] (zB D K (vi, va, vg))) (vp_Si (fun r => True)) 0 0 (fun _ => False) := by
  refine zin (by decide) (Nat.le_of_ble_eq_true rfl) ?_
  intro p e s m args below meth c ls Q hQ C hr hlk hP hs hl
  have C : CallFix p m c cX1_revokesOf 6 s args zw RX1 := C
  obtain ⟨hx, hb, hml, hown, hts⟩ := id C
  have hS : va_S (zA K) s.heap s.heap [] := va_S.rf
  have hl : lv_has ls 6 [(0, .ref a0), (1, .int x1), (2, .int x2)] := hl
  refine lv_iconst (v := 0) hx hb dX1_revokesOf_0 (by decide) ?_
  refine lv_istore_n (lv' := [(3, .int 0), (0, .ref a0), (1, .int x1), (2, .int x2)]) hx hb dX1_revokesOf_1 rfl hl (by decide) rfl (fun ls hl => ?_)
  refine lv_iconst (v := 0) hx hb dX1_revokesOf_2 (by decide) ?_
  refine lv_istore (lv' := [(4, .int 0), (3, .int 0), (0, .ref a0), (1, .int x1), (2, .int x2)]) hx hb dX1_revokesOf_3 hl (by decide) rfl (fun ls hl => ?_)
  have L_5_3 : ∀ (n_3 : Nat) (y_1 : Int32) (y_2 : Int32) (ls : Array Slot), (2147483648 - y_1.toInt).toNat < n_3 → 0 ≤ y_1.toInt → lv_has ls 6 [(4, .int y_1), (3, .int y_2), (0, .ref a0), (1, .int x1), (2, .int x2)] → W p l e (rmd 1) s m args below meth c s.heap [] 0 0 Q (F0 m 5 ls []) := by
    intro n_3
    induction n_3 with
    | zero => intro y_1 y_2 ls hm_3; exact absurd hm_3 (Nat.not_lt_zero _)
    | succ n_3 ih_3 =>
      intro y_1 y_2 ls hm_3 iv_4_0 hl
      refine lv_iload hx hb dX1_revokesOf_5 (lv_at hl 0 rfl) ?_
      refine lv_bipush (v := 15) hx hb dX1_revokesOf_7 (by decide) ?_
      refine bi_ge (tgt := 64) hx hb rfl ti_15 dX1_revokesOf_9 (by decide) (fun c_5 => ?_) (fun c_5 => ?_)
      · skip
        refine lv_iload_n hx hb dX1_revokesOf_64 rfl (lv_at hl 1 rfl) ?_
        exact zaS hQ hx hb hr hlk trivial dX1_revokesOf_65
      · skip
        refine lv_iload_n hx hb dX1_revokesOf_12 rfl (lv_at hl 3 rfl) ?_
        refine zcS (zrSN (As := [.int x1]) (rest := []) C hs hP hS (c_X11_isSeat l D K hO vi va vg hI x1) m_X11_isSeat (List.mem_of_getElem? (l := nw_M) (i := 5) rfl) ⟨by decide, by decide⟩ hl.1 (Nat.le_of_ble_eq_true rfl) dX1_revokesOf_13) (fun x_6 p_6 => ?_)
        have pp_6 : (x_6.toInt ≠ 0 → 0 ≤ x1.toInt ∧ x1.toInt ≤ 3) := p_6.2
        refine bz_eq (tgt := 64) hx hb rfl dX1_revokesOf_16 (by decide) (fun c_7 => ?_) (fun c_7 => ?_)
        · skip
          refine lv_iload_n hx hb dX1_revokesOf_64 rfl (lv_at hl 1 rfl) ?_
          exact zaS hQ hx hb hr hlk trivial dX1_revokesOf_65
        · skip
          refine lv_aload_n hx hb dX1_revokesOf_19 rfl (lv_at hl 2 rfl) ?_
          refine zg_1_16 C hs hP ha0 hk0 wf_X1_27 dX1_revokesOf_20 ?_
          have hf_8 := hO.r (j := 16) ha0 hk0 (rfl : zX 1 16 = some (20, 60))
          refine lv_iload_n hx hb dX1_revokesOf_23 rfl (lv_at hl 3 rfl) ?_
          refine lv_bipush (v := 15) hx hb dX1_revokesOf_24 (by decide) ?_
          refine lv_imul hx hb dX1_revokesOf_26 ?_
          refine lv_topi (fun x_9 ex_9 => ?_)
          refine lv_iload hx hb dX1_revokesOf_27 (lv_at hl 0 rfl) ?_
          refine lv_iadd hx hb dX1_revokesOf_29 ?_
          refine lv_topi (fun x_10 ex_10 => ?_)
          have g_12 := z_rng x1
          obtain ⟨f_9, l_9, u_9⟩ := z_mul ex_9 rfl ti_15
          have g_13 := z_rng y_1
          obtain ⟨f_10, l_10, u_10⟩ := z_add ex_10 rfl rfl
          have hin_11 : vp_in x_10 (zn K (zr K a0 16)) := vp_in_iff.mpr (by rw [(hf_8.2.2 (by decide))]; refine ⟨?_, ?_⟩ <;> omega)
          refine zld_20 C hs hP hf_8.1 hf_8.2.1 hin_11 dX1_revokesOf_30 ?_
          refine lv_istore (lv' := [(5, .int (va (zr K a0 16) x_10.toNatClampNeg)), (4, .int y_1), (3, .int y_2), (0, .ref a0), (1, .int x1), (2, .int x2)]) hx hb dX1_revokesOf_31 hl (by decide) rfl (fun ls hl => ?_)
          refine lv_iload_n hx hb dX1_revokesOf_33 rfl (lv_at hl 2 rfl) ?_
          refine lv_iload hx hb dX1_revokesOf_34 (lv_at hl 0 rfl) ?_
          refine lv_bipush (v := 9) hx hb dX1_revokesOf_36 (by decide) ?_
          have J_56_18 : ∀ (y_17 : Int32) (ls : Array Slot), (y_17 = 0 ∨ y_17 = 1) → lv_has ls 6 [(0, .ref a0), (1, .int x1), (2, .int x2), (3, .int y_2), (4, .int y_1), (5, .int (va (zr K a0 16) x_10.toNatClampNeg))] → W p l e (rmd 1) s m args below meth c s.heap [] 0 0 Q (F0 m 56 ls [.int y_17, .int y_2]) := by
            intro y_17 ls hb_y_17 hl
            refine lv_iadd hx hb dX1_revokesOf_56 ?_
            refine lv_topi (fun x_20 ex_20 => ?_)
            refine lv_istore_n (lv' := [(3, .int x_20), (0, .ref a0), (1, .int x1), (2, .int x2), (4, .int y_1), (5, .int (va (zr K a0 16) x_10.toNatClampNeg))]) hx hb dX1_revokesOf_57 rfl hl (by decide) rfl (fun ls hl => ?_)
            obtain ⟨x_21, ex_21⟩ : ∃ y : Int32, y = y_1 + 1 := ⟨_, rfl⟩
            refine lv_iinc (v := x_21) (lv' := [(4, .int x_21), (3, .int x_20), (0, .ref a0), (1, .int x1), (2, .int x2), (5, .int (va (zr K a0 16) x_10.toNatClampNeg))]) hx hb dX1_revokesOf_58 hl (k := 4) rfl (by rw [ex_21]; rfl) (by decide) rfl (fun ls hl => ?_)
            refine lv_goto (tgt := 5) hx hb dX1_revokesOf_61 (by decide) ?_
            obtain ⟨f_21, l_21, u_21⟩ := z_add ex_21 rfl ti_1
            have g_22 := z_rng y_2
            have g_23 := z_rng y_17
            obtain ⟨f_20, l_20, u_20⟩ := z_add ex_20 rfl rfl
            have g_24 := z_rng x_6
            exact ih_3 x_21 x_20 _ (by omega) (by omega) (lv_sub hl [0, 1, 2, 3, 4] rfl)
          refine bi_eq (tgt := 51) hx hb rfl ti_9 dX1_revokesOf_38 (by decide) (fun c_14 => ?_) (fun c_14 => ?_)
          · skip
            refine lv_iconst (v := 1) hx hb dX1_revokesOf_51 (by decide) ?_
            refine lv_goto (tgt := 56) hx hb dX1_revokesOf_52 (by decide) ?_
            exact J_56_18 1 _ (Or.inr rfl) (lv_sub hl [3, 4, 5, 2, 1, 0] rfl)
          · skip
            refine lv_iload hx hb dX1_revokesOf_41 (lv_at hl 0 rfl) ?_
            refine lv_iconst (v := (-1)) hx hb dX1_revokesOf_43 (by decide) ?_
            refine bi_eq (tgt := 55) hx hb rfl ti_m1 dX1_revokesOf_44 (by decide) (fun c_25 => ?_) (fun c_25 => ?_)
            · skip
              refine lv_iconst (v := 0) hx hb dX1_revokesOf_55 (by decide) ?_
              exact J_56_18 0 _ (Or.inl rfl) (lv_sub hl [3, 4, 5, 2, 1, 0] rfl)
            · skip
              refine lv_iload_n hx hb dX1_revokesOf_47 rfl (lv_at hl 5 rfl) ?_
              refine bz_ne (tgt := 55) hx hb rfl dX1_revokesOf_48 (by decide) (fun c_26 => ?_) (fun c_26 => ?_)
              · skip
                refine lv_iconst (v := 0) hx hb dX1_revokesOf_55 (by decide) ?_
                exact J_56_18 0 _ (Or.inl rfl) (lv_sub hl [3, 4, 5, 2, 1, 0] rfl)
              · skip
                refine lv_iconst (v := 1) hx hb dX1_revokesOf_51 (by decide) ?_
                refine lv_goto (tgt := 56) hx hb dX1_revokesOf_52 (by decide) ?_
                exact J_56_18 1 _ (Or.inr rfl) (lv_sub hl [3, 4, 5, 2, 1, 0] rfl)
  exact L_5_3 _ 0 0 _ (Nat.lt_succ_self _) (by simp only [ti_0, ti_0]; omega) (lv_sub hl [0, 1, 2, 3, 4] rfl)
