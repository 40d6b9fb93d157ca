set_option maxHeartbeats 4000000 in
set_option maxRecDepth 100000 in
theorem c_X12_look (l : Launch) (D : va_G) (K : zK) (hM : mK K) (f : Nat → Int32) (A : Nat → Nat → Int32) (hT : mT f A) (a0 : Nat) (ha0 : a0 ∈ zl K) (hk0 : zk K a0 = 11) (x1 : Int32) (x2 : Int32) (hp0 : zRow x1.toInt) (hp1 : 0 ≤ x2.toInt ∧ x2.toInt ≤ 3) : Met l yX12_look (zc yX12_look cX12_look 4 none) (rmd 0) (va_Pc [.ref a0, .int x1, .int x2] (zB D K (mV K f A))) (mQv D K (fun f' A' => mT f' A' ∧ (∀ k, k ∉ ([53, 55] : List Nat) → A' k = A k) ∧ (∀ k, k ∉ ([14, 16] : List Nat) → f' k = f k) ∧ (f' 16).toInt = (A 40 (x1.toInt + 26).toNat).toInt)) 0 0 (zA K) := by
  refine zin (by decide) (Nat.le_of_ble_eq_true rfl) ?_
  intro p e s m args below meth c ls Q hQ C hr hlk hP hs hl
  have C : CallFix p m c cX12_look 4 s args zw RX12 := C
  obtain ⟨hx, hb, hml, hown, hts⟩ := id C
  have hO := hM.1
  have hS : va_S (zA K) s.heap s.heap [] := va_S.rf
  have FA : ∀ k, k ∉ ([53, 55] : List Nat) → A k = A k := fun _ _ => rfl
  have FF : ∀ k, k ∉ ([14, 16] : List Nat) → f k = f k := fun _ _ => rfl
  have hl : lv_has ls 4 [(0, .ref a0), (1, .int x1), (2, .int x2)] := hl
  have hb0 := hp0.lin
  refine lv_aload_n hx hb dX12_look_0 rfl (lv_at hl 0 rfl) ?_
  refine lv_iconst (v := 0) hx hb dX12_look_1 (by decide) ?_
  refine mp_14 C hM hs hP hS ha0 hT hk0 wf_X12_117 (show 0 ≤ (0 : Int32).toInt ∧ (0 : Int32).toInt ≤ 60 from by rw [ti_0]; omega) dX12_look_2 (fun f_1 H locs hE_1 hT hP hS => ?_)
  have FF := frF FF (frFu hE_1) (by decide)
  refine lv_iconst (v := 0) hx hb dX12_look_5 (by decide) ?_
  refine lv_istore_n (lv' := [(3, .int 0), (0, .ref a0), (1, .int x1), (2, .int x2)]) hx hb dX12_look_6 rfl hl (by decide) rfl (fun ls hl => ?_)
  have L_7_3 : ∀ (n_3 : Nat) (f_4 : Nat → Int32) (A_4 : Nat → Nat → Int32) (H : Heap) (locs : List Loc) (y_2 : Int32) (ls : Array Slot), (2147483648 - y_2.toInt).toNat < n_3 → 0 ≤ y_2.toInt → (f_4 14).toInt = y_2.toInt → (∀ k, k ∉ ([53, 55] : List Nat) → A_4 k = A k) → (∀ k, k ∉ ([14, 16] : List Nat) → f_4 k = f k) → mT f_4 A_4 → va_P D vwCl (zW K (mV K f_4 A_4)) H → va_S (zA K) s.heap H locs → lv_has ls 4 [(3, .int y_2), (0, .ref a0), (1, .int x1), (2, .int x2)] → W p l e (rmd 0) s m args below meth c H locs 0 0 Q (F0 m 7 ls []) := by
    intro n_3
    induction n_3 with
    | zero => intro f_4 A_4 H locs y_2 ls hm_3; exact absurd hm_3 (Nat.not_lt_zero _)
    | succ n_3 ih_3 =>
      intro f_4 A_4 H locs y_2 ls hm_3 iv_4_0 iv_4_1 FA_4 FF_4 hT hP hS hl
      have FA := FA_4
      have FF := FF_4
      refine lv_iload_n hx hb dX12_look_7 rfl (lv_at hl 0 rfl) ?_
      refine lv_aload_n hx hb dX12_look_8 rfl (lv_at hl 1 rfl) ?_
      refine mg_0 C hs hP ha0 hk0 wf_X12_8 dX12_look_9 ?_
      have hf_6 := hO.r (j := 0) ha0 hk0 (rfl : zX 11 0 = some (40, 47730))
      refine lv_iload_n hx hb dX12_look_12 rfl (lv_at hl 2 rfl) ?_
      refine lv_bipush (v := 22) hx hb dX12_look_13 (by decide) ?_
      refine lv_iadd hx hb dX12_look_15 ?_
      refine lv_topi (fun x_7 ex_7 => ?_)
      refine lv_iload_n hx hb dX12_look_16 rfl (lv_at hl 3 rfl) ?_
      refine lv_iadd hx hb dX12_look_17 ?_
      refine lv_topi (fun x_8 ex_8 => ?_)
      have hi_hr_9 : zEq x_8.toInt (x1.toInt + x2.toInt + 22) := by
        have g_10 := z_rng x1
        obtain ⟨f_7, l_7, u_7⟩ := z_add ex_7 rfl ti_22
        try replace f_7 : x_7.toInt = x1.toInt + 22 := by omega
        clear l_7 u_7
        have g_11 := z_rng x2
        obtain ⟨f_8, l_8, u_8⟩ := z_add ex_8 rfl rfl
        try replace f_8 : x_8.toInt = x_7.toInt + x2.toInt := by omega
        clear l_8 u_8
        show x_8.toInt = (x1.toInt + x2.toInt + 22)
        omega
      have hl_hr_9 : 22 ≤ x2.toInt + 22 ∧ x2.toInt + 22 ≤ 25 := by
        have g_12 := z_rng x1
        have g_13 := z_rng x2
        omega
      have hid_hr_9 : (x1.toInt + x2.toInt + 22) = x1.toInt + (x2.toInt + 22) := by simp only [Int.add_assoc, Int.add_sub_assoc]
      have hr_9 := z_cell (lo := 22) (hi := 25) hp0 hi_hr_9 hid_hr_9 hl_hr_9 (by decide)
      replace hid_hr_9 : zEq (x1.toInt + x2.toInt + 22) (x1.toInt + (x2.toInt + 22)) := hid_hr_9
      have hin_14 : vp_in x_8 (zn K (zr K a0 0)) := vp_in_iff.mpr (by rw [(hf_6.2.2 (by decide))]; exact hr_9.in)
      refine mld_40 C hs hP hf_6.1 hf_6.2.1 hin_14 dX12_look_18 ?_
      have ep_15 : x_8.toNatClampNeg = (x1.toInt + x2.toInt + 22).toNat := z_posE hi_hr_9
      rw [ep_15]
      have ev_16 : A_4 40 (x1.toInt + x2.toInt + 22).toNat = A 40 (x1.toInt + x2.toInt + 22).toNat := by rw [FA_4 40 (by decide)]
      have tv_17 := rv_22 hT hr_9
      rw [ep_15] at tv_17
      rw [ev_16] at tv_17
      rw [ev_16]
      refine bi_ge (tgt := 61) hx hb rfl rfl dX12_look_19 (by decide) (fun c_18 => ?_) (fun c_18 => ?_)
      · skip
        refine lv_aload_n hx hb dX12_look_61 rfl (lv_at hl 1 rfl) ?_
        refine lv_aload_n hx hb dX12_look_62 rfl (lv_at hl 1 rfl) ?_
        refine mg_0 C hs hP ha0 hk0 wf_X12_8 dX12_look_63 ?_
        refine lv_iload_n hx hb dX12_look_66 rfl (lv_at hl 2 rfl) ?_
        refine lv_bipush (v := 26) hx hb dX12_look_67 (by decide) ?_
        refine lv_iadd hx hb dX12_look_69 ?_
        refine lv_topi (fun x_45 ex_45 => ?_)
        have hi_hr_46 : zEq x_45.toInt (x1.toInt + 26) := by
          have g_47 := z_rng x1
          obtain ⟨f_45, l_45, u_45⟩ := z_add ex_45 rfl ti_26
          try replace f_45 : x_45.toInt = x1.toInt + 26 := by omega
          clear l_45 u_45
          show x_45.toInt = (x1.toInt + 26)
          omega
        have hl_hr_46 : (26 : Int) ≤ 26 ∧ 26 ≤ (26 : Int) := by decide
        have hid_hr_46 : (x1.toInt + 26) = x1.toInt + (26) := by simp only [Int.add_assoc, Int.add_sub_assoc]
        have hr_46 := z_cell (lo := 26) (hi := 26) hp0 hi_hr_46 hid_hr_46 hl_hr_46 (by decide)
        replace hid_hr_46 : zEq (x1.toInt + 26) (x1.toInt + (26)) := hid_hr_46
        have hin_48 : vp_in x_45 (zn K (zr K a0 0)) := vp_in_iff.mpr (by rw [(hf_6.2.2 (by decide))]; exact hr_46.in)
        refine mld_40 C hs hP hf_6.1 hf_6.2.1 hin_48 dX12_look_70 ?_
        have ep_49 : x_45.toNatClampNeg = (x1.toInt + 26).toNat := z_posE hi_hr_46
        rw [ep_49]
        have ev_50 : A_4 40 (x1.toInt + 26).toNat = A 40 (x1.toInt + 26).toNat := by rw [FA_4 40 (by decide)]
        have tv_51 := rv_26 hT hr_46
        rw [ep_49] at tv_51
        rw [ev_50] at tv_51
        rw [ev_50]
        have g_53 := z_rng (A 40 (x1.toInt + 26).toNat)
        refine mp_16 C hM hs hP hS ha0 hT hk0 wf_X12_127 (show 0 ≤ (A 40 (x1.toInt + 26).toNat).toInt ∧ (A 40 (x1.toInt + 26).toNat).toInt ≤ 4 from by omega) dX12_look_71 (fun f_52 H locs hE_52 hT hP hS => ?_)
        have FF := frF FF (frFu hE_52) (by decide)
        refine lv_iconst (v := 0) hx hb dX12_look_74 (by decide) ?_
        refine lv_istore_n (lv' := [(3, .int 0), (0, .ref a0), (1, .int x1), (2, .int x2)]) hx hb dX12_look_75 rfl hl (by decide) rfl (fun ls hl => ?_)
        have L_76_55 : ∀ (n_55 : Nat) (A_56 : Nat → Nat → Int32) (H : Heap) (locs : List Loc) (y_54 : Int32) (ls : Array Slot), (2147483648 - y_54.toInt).toNat < n_55 → 0 ≤ y_54.toInt → (∀ k, k ∉ ([53, 55] : List Nat) → A_56 k = A k) → mT f_52 A_56 → va_P D vwCl (zW K (mV K f_52 A_56)) H → va_S (zA K) s.heap H locs → lv_has ls 4 [(3, .int y_54), (0, .ref a0), (1, .int x1), (2, .int x2)] → W p l e (rmd 0) s m args below meth c H locs 0 0 Q (F0 m 76 ls []) := by
          intro n_55
          induction n_55 with
          | zero => intro A_56 H locs y_54 ls hm_55; exact absurd hm_55 (Nat.not_lt_zero _)
          | succ n_55 ih_55 =>
            intro A_56 H locs y_54 ls hm_55 iv_56_0 FA_56 hT hP hS hl
            have FA := FA_56
            refine lv_iload_n hx hb dX12_look_76 rfl (lv_at hl 0 rfl) ?_
            refine lv_aload_n hx hb dX12_look_77 rfl (lv_at hl 1 rfl) ?_
            refine mg_16 C hs hP ha0 hk0 wf_X12_127 dX12_look_78 ?_
            have ev_58 : f_52 16 = A 40 (x1.toInt + 26).toNat := by rw [hE_52, pk_us]
            rw [ev_58]
            have tf_59 : 0 ≤ (A 40 (x1.toInt + 26).toNat).toInt ∧ (A 40 (x1.toInt + 26).toNat).toInt ≤ 4 := by rw [← ev_58]; exact hT.1 16
            refine bi_ge (tgt := 107) hx hb rfl rfl dX12_look_81 (by decide) (fun c_60 => ?_) (fun c_60 => ?_)
            · skip
              have ev_61 : f_52 16 = A 40 (x1.toInt + 26).toNat := by rw [hE_52, pk_us]
              exact maV hQ hx hb hr hlk hP hS ⟨hT, FA, FF, (by (try dsimp only); rw [ev_61] <;> (first | omega | (intro h9; omega) | (simp; done) | (refine ⟨?_, ?_⟩ <;> intros <;> first | trivial | omega) | (refine ⟨?_, ?_, ?_⟩ <;> intros <;> first | trivial | omega)))⟩ dX12_look_107
            · skip
              refine lv_aload_n hx hb dX12_look_84 rfl (lv_at hl 1 rfl) ?_
              refine mg_15 C hs hP ha0 hk0 wf_X12_39 dX12_look_85 ?_
              have hf_62 := hO.r (j := 15) ha0 hk0 (rfl : zX 11 15 = some (55, 4))
              refine lv_iload_n hx hb dX12_look_88 rfl (lv_at hl 0 rfl) ?_
              refine lv_aload_n hx hb dX12_look_89 rfl (lv_at hl 1 rfl) ?_
              refine mg_0 C hs hP ha0 hk0 wf_X12_8 dX12_look_90 ?_
              refine lv_iload_n hx hb dX12_look_93 rfl (lv_at hl 2 rfl) ?_
              refine lv_bipush (v := 27) hx hb dX12_look_94 (by decide) ?_
              refine lv_iadd hx hb dX12_look_96 ?_
              refine lv_topi (fun x_63 ex_63 => ?_)
              refine lv_iload_n hx hb dX12_look_97 rfl (lv_at hl 0 rfl) ?_
              refine lv_iadd hx hb dX12_look_98 ?_
              refine lv_topi (fun x_64 ex_64 => ?_)
              have hi_hr_65 : zEq x_64.toInt (x1.toInt + y_54.toInt + 27) := by
                have g_66 := z_rng x1
                obtain ⟨f_63, l_63, u_63⟩ := z_add ex_63 rfl ti_27
                try replace f_63 : x_63.toInt = x1.toInt + 27 := by omega
                clear l_63 u_63
                have g_67 := z_rng y_54
                obtain ⟨f_64, l_64, u_64⟩ := z_add ex_64 rfl rfl
                try replace f_64 : x_64.toInt = x_63.toInt + y_54.toInt := by omega
                clear l_64 u_64
                show x_64.toInt = (x1.toInt + y_54.toInt + 27)
                omega
              have hl_hr_65 : 27 ≤ y_54.toInt + 27 ∧ y_54.toInt + 27 ≤ 30 := by
                have g_68 := z_rng x1
                have g_69 := z_rng y_54
                omega
              have hid_hr_65 : (x1.toInt + y_54.toInt + 27) = x1.toInt + (y_54.toInt + 27) := by simp only [Int.add_assoc, Int.add_sub_assoc]
              have hr_65 := z_cell (lo := 27) (hi := 30) hp0 hi_hr_65 hid_hr_65 hl_hr_65 (by decide)
              replace hid_hr_65 : zEq (x1.toInt + y_54.toInt + 27) (x1.toInt + (y_54.toInt + 27)) := hid_hr_65
              have hin_70 : vp_in x_64 (zn K (zr K a0 0)) := vp_in_iff.mpr (by rw [(hf_6.2.2 (by decide))]; exact hr_65.in)
              refine mld_40 C hs hP hf_6.1 hf_6.2.1 hin_70 dX12_look_99 ?_
              have ep_71 : x_64.toNatClampNeg = (x1.toInt + y_54.toInt + 27).toNat := z_posE hi_hr_65
              rw [ep_71]
              have ev_72 : A_56 40 (x1.toInt + y_54.toInt + 27).toNat = A 40 (x1.toInt + y_54.toInt + 27).toNat := by rw [FA_56 40 (by decide)]
              have tv_73 := rv_27 hT hr_65
              rw [ep_71] at tv_73
              rw [ev_72] at tv_73
              rw [ev_72]
              have g_75 := z_rng y_54
              have hin_74 : vp_in y_54 (zn K (zr K a0 15)) := vp_in_iff.mpr (by rw [(hf_62.2.2 (by decide))]; refine ⟨?_, ?_⟩ <;> omega)
              have g_77 := z_rng (A 40 (x1.toInt + y_54.toInt + 27).toNat)
              refine mst_55 C hM hs hP hS hf_62.1 hT hf_62.2.1 hin_74 (show 0 ≤ (A 40 (x1.toInt + y_54.toInt + 27).toNat).toInt ∧ (A 40 (x1.toInt + y_54.toInt + 27).toNat).toInt ≤ 59 from by omega) dX12_look_100 (fun A_76 H locs hE_76 hT hP hS => ?_)
              have FA := frA FA (frAu hE_76) (by decide)
              obtain ⟨x_78, ex_78⟩ : ∃ y : Int32, y = y_54 + 1 := ⟨_, rfl⟩
              refine lv_iinc (v := x_78) (lv' := [(3, .int x_78), (0, .ref a0), (1, .int x1), (2, .int x2)]) hx hb dX12_look_101 hl (k := 0) rfl (by rw [ex_78]; rfl) (by decide) rfl (fun ls hl => ?_)
              refine lv_goto (tgt := 76) hx hb dX12_look_104 (by decide) ?_
              obtain ⟨f_78, l_78, u_78⟩ := z_add ex_78 rfl ti_1
              try replace f_78 : x_78.toInt = y_54.toInt + 1 := by omega
              clear l_78 u_78
              exact ih_55 A_76 _ _ x_78 _ (by omega) (by omega) FA hT hP hS (lv_sub hl [0, 1, 2, 3] rfl)
        have g_79 := z_rng (A 40 (x1.toInt + x2.toInt + 22).toNat)
        have g_80 := z_rng y_2
        exact L_76_55 _ A_4 _ _ 0 _ (Nat.lt_succ_self _) (by (try simp only [ti_0]); omega) FA hT hP hS (lv_sub hl [0, 1, 2, 3] rfl)
      · skip
        refine lv_aload_n hx hb dX12_look_22 rfl (lv_at hl 1 rfl) ?_
        refine mg_13 C hs hP ha0 hk0 wf_X12_36 dX12_look_23 ?_
        have hf_81 := hO.r (j := 13) ha0 hk0 (rfl : zX 11 13 = some (53, 60))
        refine lv_iload_n hx hb dX12_look_26 rfl (lv_at hl 0 rfl) ?_
        refine lv_aload_n hx hb dX12_look_27 rfl (lv_at hl 1 rfl) ?_
        refine mg_0 C hs hP ha0 hk0 wf_X12_8 dX12_look_28 ?_
        refine lv_iload_n hx hb dX12_look_31 rfl (lv_at hl 2 rfl) ?_
        refine lv_sipush (v := 230) hx hb dX12_look_32 (by decide) ?_
        refine lv_iadd hx hb dX12_look_35 ?_
        refine lv_topi (fun x_82 ex_82 => ?_)
        refine lv_bipush (v := 60) hx hb dX12_look_36 (by decide) ?_
        refine lv_iload_n hx hb dX12_look_38 rfl (lv_at hl 3 rfl) ?_
        refine lv_imul hx hb dX12_look_39 ?_
        refine lv_topi (fun x_83 ex_83 => ?_)
        refine lv_iadd hx hb dX12_look_40 ?_
        refine lv_topi (fun x_84 ex_84 => ?_)
        refine lv_iload_n hx hb dX12_look_41 rfl (lv_at hl 0 rfl) ?_
        refine lv_iadd hx hb dX12_look_42 ?_
        refine lv_topi (fun x_85 ex_85 => ?_)
        have hi_hr_86 : zEq x_85.toInt (x1.toInt + 60 * x2.toInt + y_2.toInt + 230) := by
          have g_87 := z_rng x1
          obtain ⟨f_82, l_82, u_82⟩ := z_add ex_82 rfl ti_230
          try replace f_82 : x_82.toInt = x1.toInt + 230 := by omega
          clear l_82 u_82
          have g_88 := z_rng x2
          obtain ⟨f_83, l_83, u_83⟩ := z_mul ex_83 ti_60 rfl
          try replace f_83 : x_83.toInt = 60 * x2.toInt := by omega
          clear l_83 u_83
          obtain ⟨f_84, l_84, u_84⟩ := z_add ex_84 rfl rfl
          try replace f_84 : x_84.toInt = x_82.toInt + x_83.toInt := by omega
          clear l_84 u_84
          have g_89 := z_rng y_2
          obtain ⟨f_85, l_85, u_85⟩ := z_add ex_85 rfl rfl
          try replace f_85 : x_85.toInt = x_84.toInt + y_2.toInt := by omega
          clear l_85 u_85
          show x_85.toInt = (x1.toInt + 60 * x2.toInt + y_2.toInt + 230)
          omega
        have hl_hr_86 : 230 ≤ 60 * x2.toInt + y_2.toInt + 230 ∧ 60 * x2.toInt + y_2.toInt + 230 ≤ 469 := by
          have g_90 := z_rng x1
          have g_91 := z_rng x2
          have g_92 := z_rng y_2
          omega
        have hid_hr_86 : (x1.toInt + 60 * x2.toInt + y_2.toInt + 230) = x1.toInt + (60 * x2.toInt + y_2.toInt + 230) := by simp only [Int.add_assoc, Int.add_sub_assoc]
        have hr_86 := z_cell (lo := 170) (hi := 469) hp0 hi_hr_86 hid_hr_86 hl_hr_86 (by decide)
        replace hid_hr_86 : zEq (x1.toInt + 60 * x2.toInt + y_2.toInt + 230) (x1.toInt + (60 * x2.toInt + y_2.toInt + 230)) := hid_hr_86
        have hin_93 : vp_in x_85 (zn K (zr K a0 0)) := vp_in_iff.mpr (by rw [(hf_6.2.2 (by decide))]; exact hr_86.in)
        refine mld_40 C hs hP hf_6.1 hf_6.2.1 hin_93 dX12_look_43 ?_
        have ep_94 : x_85.toNatClampNeg = (x1.toInt + 60 * x2.toInt + y_2.toInt + 230).toNat := z_posE hi_hr_86
        rw [ep_94]
        have ev_95 : A_4 40 (x1.toInt + 60 * x2.toInt + y_2.toInt + 230).toNat = A 40 (x1.toInt + 60 * x2.toInt + y_2.toInt + 230).toNat := by rw [FA_4 40 (by decide)]
        have tv_96 := rv_170 hT hr_86
        rw [ep_94] at tv_96
        rw [ev_95] at tv_96
        rw [ev_95]
        have g_98 := z_rng y_2
        have hin_97 : vp_in y_2 (zn K (zr K a0 13)) := vp_in_iff.mpr (by rw [(hf_81.2.2 (by decide))]; refine ⟨?_, ?_⟩ <;> omega)
        have g_100 := z_rng (A 40 (x1.toInt + 60 * x2.toInt + y_2.toInt + 230).toNat)
        refine mst_53 C hM hs hP hS hf_81.1 hT hf_81.2.1 hin_97 (show 0 ≤ (A 40 (x1.toInt + 60 * x2.toInt + y_2.toInt + 230).toNat).toInt ∧ (A 40 (x1.toInt + 60 * x2.toInt + y_2.toInt + 230).toNat).toInt ≤ 59 from by omega) dX12_look_44 (fun A_99 H locs hE_99 hT hP hS => ?_)
        have FA := frA FA (frAu hE_99) (by decide)
        refine lv_aload_n hx hb dX12_look_45 rfl (lv_at hl 1 rfl) ?_
        refine lv_dup hx hb dX12_look_46 rfl ?_
        refine mg_14 C hs hP ha0 hk0 wf_X12_117 dX12_look_47 ?_
        have tf_101 : 0 ≤ (f_4 14).toInt ∧ (f_4 14).toInt ≤ 60 := hT.1 14
        refine lv_iconst (v := 1) hx hb dX12_look_50 (by decide) ?_
        refine lv_iadd hx hb dX12_look_51 ?_
        refine lv_topi (fun x_102 ex_102 => ?_)
        have g_104 := z_rng (f_4 14)
        obtain ⟨f_102, l_102, u_102⟩ := z_add ex_102 rfl ti_1
        try replace f_102 : x_102.toInt = (f_4 14).toInt + 1 := by omega
        clear l_102 u_102
        refine mp_14 C hM hs hP hS ha0 hT hk0 wf_X12_117 (show 0 ≤ x_102.toInt ∧ x_102.toInt ≤ 60 from by omega) dX12_look_52 (fun f_103 H locs hE_103 hT hP hS => ?_)
        have FF := frF FF (frFu hE_103) (by decide)
        obtain ⟨x_105, ex_105⟩ : ∃ y : Int32, y = y_2 + 1 := ⟨_, rfl⟩
        refine lv_iinc (v := x_105) (lv' := [(3, .int x_105), (0, .ref a0), (1, .int x1), (2, .int x2)]) hx hb dX12_look_55 hl (k := 0) rfl (by rw [ex_105]; rfl) (by decide) rfl (fun ls hl => ?_)
        refine lv_goto (tgt := 7) hx hb dX12_look_58 (by decide) ?_
        obtain ⟨f_105, l_105, u_105⟩ := z_add ex_105 rfl ti_1
        try replace f_105 : x_105.toInt = y_2.toInt + 1 := by omega
        clear l_105 u_105
        have g_106 := z_rng (A 40 (x1.toInt + x2.toInt + 22).toNat)
        have ev_107 : f_103 14 = x_102 := by rw [hE_103, pk_us]
        exact ih_3 f_103 A_99 _ _ x_105 _ (by omega) (by omega) (by rw [ev_107] <;> omega) FA FF hT hP hS (lv_sub hl [0, 1, 2, 3] rfl)
  have ev_108 : f_1 14 = (0 : Int32) := by rw [hE_1, pk_us]
  have ev_108_i : (f_1 14).toInt = 0 := by rw [ev_108, ti_0]
  exact L_7_3 _ f_1 A _ _ 0 _ (Nat.lt_succ_self _) (by (try simp only [ti_0]); omega) (by rw [ev_108] <;> omega) FA FF hT hP hS (lv_sub hl [0, 1, 2, 3] rfl)
set_option maxHeartbeats 4000000 in
set_option maxRecDepth 100000 in
theorem c_X12_playMeets (l : Launch) (D : va_G) (K : zK) (hM : mK K) (f : Nat → Int32) (A : Nat → Nat → Int32) (hT : mT f A) (a0 : Nat) (ha0 : a0 ∈ zl K) (hk0 : zk K a0 = 11) (x1 : Int32) (x2 : Int32) (x3 : Int32) (x4 : Int32) (hp0 : zRow x1.toInt) (hp1 : 0 ≤ x2.toInt ∧ x2.toInt ≤ 3) (hp2 : (f 11).toInt ≤ 1980000000) : Met l yX12_playMeets (zc yX12_playMeets cX12_playMeets 6 (some .int)) (rmd 3) (va_Pc [.ref a0, .int x1, .int x2, .int x3, .int x4] (zB D K (mV K f A))) (mQi D K (fun r f' A' => mT f' A' ∧ (∀ k, k ∉ ([50, 53, 55] : List Nat) → A' k = A k) ∧ (∀ k, k ∉ ([11, 14, 16, 17] : List Nat) → f' k = f k) ∧ (f 11).toInt ≤ (f' 11).toInt ∧ (f' 11).toInt ≤ (f 11).toInt + 3 ∧ ((f 12).toInt ≠ 0 → (f' 11).toInt = (f 11).toInt) ∧ (r.toInt ≤ 0 → 0 ≤ x3.toInt ∧ x3.toInt < (A 40 (x1.toInt + x2.toInt + 22).toNat).toInt ∧ (A 40 (x1.toInt + 9).toNat).toInt = x2.toInt))) 0 0 (zA K) := by
  refine zin (by decide) (Nat.le_of_ble_eq_true rfl) ?_
  intro p e s m args below meth c ls Q hQ C hr hlk hP hs hl
  have C : CallFix p m c cX12_playMeets 6 s args zw RX12 := C
  obtain ⟨hx, hb, hml, hown, hts⟩ := id C
  have hO := hM.1
  have hS : va_S (zA K) s.heap s.heap [] := va_S.rf
  have FA : ∀ k, k ∉ ([50, 53, 55] : List Nat) → A k = A k := fun _ _ => rfl
  have FF : ∀ k, k ∉ ([11, 14, 16, 17] : List Nat) → f k = f k := fun _ _ => rfl
  have hl : lv_has ls 6 [(0, .ref a0), (1, .int x1), (2, .int x2), (3, .int x3), (4, .int x4)] := hl
  have hb0 := hp0.lin
  refine lv_aload_n hx hb dX12_playMeets_0 rfl (lv_at hl 0 rfl) ?_
  refine lv_iconst (v := 0) hx hb dX12_playMeets_1 (by decide) ?_
  refine mp_17 C hM hs hP hS ha0 hT hk0 wf_X12_198 trivial dX12_playMeets_2 (fun f_1 H locs hE_1 hT hP hS => ?_)
  have FF := frF FF (frFu hE_1) (by decide)
  refine lv_aload_n hx hb dX12_playMeets_5 rfl (lv_at hl 0 rfl) ?_
  refine lv_iload_n hx hb dX12_playMeets_6 rfl (lv_at hl 1 rfl) ?_
  refine lv_iload_n hx hb dX12_playMeets_7 rfl (lv_at hl 2 rfl) ?_
  refine lv_iload_n hx hb dX12_playMeets_8 rfl (lv_at hl 3 rfl) ?_
  refine lv_iconst (v := 1) hx hb dX12_playMeets_9 (by decide) ?_
  have g_2 := z_rng x1
  have g_3 := z_rng x2
  have g_4 := z_rng x3
  have hq_5 : 0 ≤ x2.toInt ∧ x2.toInt ≤ 3 := by ((try simp only [ti_1]); first | assumption | omega | (intros; omega))
  refine zcS (zrV (As := [.int x1, .int x2, .int x3, .int 1]) (b := a0) (rest := []) C hs hP hS (c_X12_meets l D K hM f_1 A hT a0 ha0 hk0 x1 x2 x3 1 hp0 hq_5) m_X12_meets wm_X12_201 (zrecv hs hP ha0 (zF_11 hk0) rfl) ⟨by decide, by decide⟩ hl.1 (Nat.le_of_ble_eq_true rfl) dX12_playMeets_10) (fun x_6 p_6 => ?_)
  have pp_6 : (x_6.toInt ≤ 0 → 0 ≤ x3.toInt ∧ x3.toInt ≤ 59 ∧ x3.toInt < (A 40 (x1.toInt + x2.toInt + 22).toNat).toInt ∧ ((1 : Int32).toInt ≠ 0 → (A 40 (x1.toInt + 9).toNat).toInt = x2.toInt)) := p_6
  try simp only [ti_1] at pp_6
  refine lv_istore (lv' := [(5, .int x_6), (0, .ref a0), (1, .int x1), (2, .int x2), (3, .int x3), (4, .int x4)]) hx hb dX12_playMeets_13 hl (by decide) rfl (fun ls hl => ?_)
  refine lv_iload hx hb dX12_playMeets_15 (lv_at hl 0 rfl) ?_
  refine bz_le (tgt := 23) hx hb rfl dX12_playMeets_17 (by decide) (fun c_7 => ?_) (fun c_7 => ?_)
  · skip
    refine lv_aload_n hx hb dX12_playMeets_23 rfl (lv_at hl 1 rfl) ?_
    refine lv_iload_n hx hb dX12_playMeets_24 rfl (lv_at hl 2 rfl) ?_
    refine lv_iload_n hx hb dX12_playMeets_25 rfl (lv_at hl 3 rfl) ?_
    have hq_8 : 0 ≤ x2.toInt ∧ x2.toInt ≤ 3 := by (first | assumption | omega | (intros; omega))
    refine mcV (zrV (As := [.int x1, .int x2]) (b := a0) (rest := []) C hs hP hS (c_X12_look l D K hM f_1 A hT a0 ha0 hk0 x1 x2 hp0 hq_8) m_X12_look wm_X12_205 (zrecv hs hP ha0 (zF_11 hk0) rfl) ⟨by decide, by decide⟩ hl.1 (Nat.le_of_ble_eq_true rfl) dX12_playMeets_26) hS (fun f_9 A_9 H locs p_9 hP hS => ?_)
    obtain ⟨hT, hA_9, hF_9, pp_9⟩ := p_9
    have pp_9 : (f_9 16).toInt = (A 40 (x1.toInt + 26).toNat).toInt := pp_9
    have FA := frA FA hA_9 (by decide)
    have FF := frF FF hF_9 (by decide)
    refine lv_aload_n hx hb dX12_playMeets_29 rfl (lv_at hl 1 rfl) ?_
    refine lv_aload_n hx hb dX12_playMeets_30 rfl (lv_at hl 1 rfl) ?_
    refine lv_iload_n hx hb dX12_playMeets_31 rfl (lv_at hl 2 rfl) ?_
    refine lv_aload_n hx hb dX12_playMeets_32 rfl (lv_at hl 1 rfl) ?_
    refine mg_13 C hs hP ha0 hk0 wf_X12_36 dX12_playMeets_33 ?_
    have hf_10 := hO.r (j := 13) ha0 hk0 (rfl : zX 11 13 = some (53, 60))
    refine lv_iload_n hx hb dX12_playMeets_36 rfl (lv_at hl 4 rfl) ?_
    have hin_11 : vp_in x3 (zn K (zr K a0 13)) := vp_in_iff.mpr (by rw [(hf_10.2.2 (by decide))]; refine ⟨?_, ?_⟩ <;> omega)
    refine mld_53 C hs hP hf_10.1 hf_10.2.1 hin_11 dX12_playMeets_37 ?_
    have tv_12 := ra_53 hT (vp_in_iff.mp hin_11).1 (by have h7 := (vp_in_iff.mp hin_11).2; rw [(hf_10.2.2 (by decide))] at h7; exact h7)
    have g_13 := z_rng (A_9 53 x3.toNatClampNeg)
    have hq_14 : 0 ≤ (A_9 53 x3.toNatClampNeg).toInt ∧ (A_9 53 x3.toNatClampNeg).toInt ≤ 59 := by (first | assumption | omega | (intros; omega))
    have ev_16 : f_9 11 = f 11 := by rw [hF_9 11 (by decide), hE_1, pk_un (show 11 ≠ 17 by decide)]
    have hq_15 : (f_9 11).toInt ≤ 1990000000 := by rw [ev_16] <;> (first | assumption | omega | (intros; omega))
    refine mcI (zrV (As := [.int x1, .int (A_9 53 x3.toNatClampNeg)]) (b := a0) (rest := [.ref a0]) C hs hP hS (c_X12_allows l D K hM f_9 A_9 hT a0 ha0 hk0 x1 (A_9 53 x3.toNatClampNeg) hp0 hq_14 hq_15) m_X12_allows wm_X12_208 (zrecv hs hP ha0 (zF_11 hk0) rfl) ⟨by decide, by decide⟩ hl.1 (Nat.le_of_ble_eq_true rfl) dX12_playMeets_38) hS (fun x_17 f_17 A_17 H locs p_17 hP hS => ?_)
    obtain ⟨hT, hA_17, hF_17, pp_17⟩ := p_17
    have pp_17 : (f_9 11).toInt ≤ (f_17 11).toInt ∧ (f_17 11).toInt ≤ (f_9 11).toInt + 3 ∧ ((f_9 12).toInt ≠ 0 → (f_17 11).toInt = (f_9 11).toInt) := pp_17
    have ev_18 : f_9 11 = f 11 := by rw [hF_9 11 (by decide), hE_1, pk_un (show 11 ≠ 17 by decide)]
    have ev_19 : f_9 12 = f 12 := by rw [hF_9 12 (by decide), hE_1, pk_un (show 12 ≠ 17 by decide)]
    rw [ev_18, ev_19] at pp_17
    have FA := frA FA hA_17 (by decide)
    have FF := frF FF hF_17 (by decide)
    refine mp_17 C hM hs hP hS ha0 hT hk0 wf_X12_198 trivial dX12_playMeets_41 (fun f_20 H locs hE_20 hT hP hS => ?_)
    have FF := frF FF (frFu hE_20) (by decide)
    refine lv_aload_n hx hb dX12_playMeets_44 rfl (lv_at hl 1 rfl) ?_
    refine mg_17 C hs hP ha0 hk0 wf_X12_198 dX12_playMeets_45 ?_
    have ev_21 : f_20 17 = x_17 := by rw [hE_20, pk_us]
    rw [ev_21]
    refine bz_le (tgt := 61) hx hb rfl dX12_playMeets_48 (by decide) (fun c_22 => ?_) (fun c_22 => ?_)
    · skip
      refine lv_iconst (v := 0) hx hb dX12_playMeets_61 (by decide) ?_
      have ev_23 : f_20 11 = f_17 11 := by rw [hE_20, pk_un (show 11 ≠ 17 by decide)]
      exact maI hQ hx hb hr hlk hP hS ⟨hT, FA, FF, (by (try dsimp only); rw [ev_23] <;> (first | omega | (intro h9; omega) | (simp; done) | (refine ⟨?_, ?_⟩ <;> intros <;> first | trivial | omega) | (refine ⟨?_, ?_, ?_⟩ <;> intros <;> first | trivial | omega)))⟩ dX12_playMeets_62
    · skip
      refine lv_iload hx hb dX12_playMeets_51 (lv_at hl 5 rfl) ?_
      refine bz_ne (tgt := 61) hx hb rfl dX12_playMeets_53 (by decide) (fun c_24 => ?_) (fun c_24 => ?_)
      · skip
        refine lv_iconst (v := 0) hx hb dX12_playMeets_61 (by decide) ?_
        have ev_25 : f_20 11 = f_17 11 := by rw [hE_20, pk_un (show 11 ≠ 17 by decide)]
        exact maI hQ hx hb hr hlk hP hS ⟨hT, FA, FF, (by (try dsimp only); rw [ev_25] <;> (first | omega | (intro h9; omega) | (simp; done) | (refine ⟨?_, ?_⟩ <;> intros <;> first | trivial | omega) | (refine ⟨?_, ?_, ?_⟩ <;> intros <;> first | trivial | omega)))⟩ dX12_playMeets_62
      · skip
        refine lv_bipush (v := 6) hx hb dX12_playMeets_56 (by decide) ?_
        refine lv_goto (tgt := 62) hx hb dX12_playMeets_58 (by decide) ?_
        have ev_26 : f_20 11 = f_17 11 := by rw [hE_20, pk_un (show 11 ≠ 17 by decide)]
        exact maI hQ hx hb hr hlk hP hS ⟨hT, FA, FF, (by (try dsimp only); rw [ev_26] <;> (first | omega | (intro h9; omega) | (simp; done) | (refine ⟨?_, ?_⟩ <;> intros <;> first | trivial | omega) | (refine ⟨?_, ?_, ?_⟩ <;> intros <;> first | trivial | omega)))⟩ dX12_playMeets_62
  · skip
    refine lv_iload hx hb dX12_playMeets_20 (lv_at hl 0 rfl) ?_
    have ev_27 : f_1 11 = f 11 := by rw [hE_1, pk_un (show 11 ≠ 17 by decide)]
    have g_28 := z_rng x_6
    exact maI hQ hx hb hr hlk hP hS ⟨hT, FA, FF, (by (try dsimp only); rw [ev_27] <;> (first | omega | (intro h9; omega) | (simp; done) | (refine ⟨?_, ?_⟩ <;> intros <;> first | trivial | omega) | (refine ⟨?_, ?_, ?_⟩ <;> intros <;> first | trivial | omega)))⟩ dX12_playMeets_22
set_option maxHeartbeats 4000000 in
set_option maxRecDepth 100000 in
theorem c_X12_allowed (l : Launch) (D : va_G) (K : zK) (hM : mK K) (f : Nat → Int32) (A : Nat → Nat → Int32) (hT : mT f A) (a0 : Nat) (ha0 : a0 ∈ zl K) (hk0 : zk K a0 = 11) (x1 : Int32) (x2 : Int32) (x3 : Int32) (hp0 : (f 11).toInt ≤ 1970000000) : Met l yX12_allowed (zc yX12_allowed cX12_allowed 6 (some .int)) (rmd 3) (va_Pc [.ref a0, .int x1, .int x2, .int x3] (zB D K (mV K f A))) (mQi D K (fun r f' A' => mT f' A' ∧ (∀ k, k ∉ ([50, 53, 55] : List Nat) → A' k = A k) ∧ (∀ k, k ∉ ([11, 14, 16] : List Nat) → f' k = f k) ∧ (f 11).toInt ≤ (f' 11).toInt ∧ (f' 11).toInt ≤ (f 11).toInt + 3 ∧ ((f 12).toInt ≠ 0 → (f' 11).toInt = (f 11).toInt))) 0 0 (zA K) := by
  refine zin (by decide) (Nat.le_of_ble_eq_true rfl) ?_
  intro p e s m args below meth c ls Q hQ C hr hlk hP hs hl
  have C : CallFix p m c cX12_allowed 6 s args zw RX12 := C
  obtain ⟨hx, hb, hml, hown, hts⟩ := id C
  have hO := hM.1
  have hS : va_S (zA K) s.heap s.heap [] := va_S.rf
  have FA : ∀ k, k ∉ ([50, 53, 55] : List Nat) → A k = A k := fun _ _ => rfl
  have FF : ∀ k, k ∉ ([11, 14, 16] : List Nat) → f k = f k := fun _ _ => rfl
  have hl : lv_has ls 6 [(0, .ref a0), (1, .int x1), (2, .int x2), (3, .int x3)] := hl
  refine lv_aload_n hx hb dX12_allowed_0 rfl (lv_at hl 0 rfl) ?_
  refine lv_iload_n hx hb dX12_allowed_1 rfl (lv_at hl 1 rfl) ?_
  refine zcS (zrV (As := [.int x1]) (b := a0) (rest := []) C hs hP hS (c_X12_isTable l D K hM f A hT a0 ha0 hk0 x1) m_X12_isTable wm_X12_107 (zrecv hs hP ha0 (zF_11 hk0) rfl) ⟨by decide, by decide⟩ hl.1 (Nat.le_of_ble_eq_true rfl) dX12_allowed_2) (fun x_1 p_1 => ?_)
  have pp_1 : (x_1.toInt ≠ 0 → 0 ≤ x1.toInt ∧ x1.toInt ≤ 3) := p_1.2
  have g_2 := z_rng x1
  refine bz_eq (tgt := 15) hx hb rfl dX12_allowed_5 (by decide) (fun c_3 => ?_) (fun c_3 => ?_)
  · skip
    clear pp_1
    refine lv_bipush (v := (-2)) hx hb dX12_allowed_15 (by decide) ?_
    exact maI hQ hx hb hr hlk hP hS ⟨hT, FA, FF, (by (try dsimp only); (try simp only [ti_m2]); (first | omega | (intro h9; omega) | (simp; done) | (refine ⟨?_, ?_⟩ <;> intros <;> first | trivial | omega) | (refine ⟨?_, ?_, ?_⟩ <;> intros <;> first | trivial | omega)))⟩ dX12_allowed_17
  · skip
    replace pp_1 := pp_1 c_3
    refine lv_iload_n hx hb dX12_allowed_8 rfl (lv_at hl 2 rfl) ?_
    refine zcS (zrS (As := [.int x2]) (rest := []) C hs hP hS (c_X12_isSeat l D K hM f A hT x2) m_X12_isSeat wm_X12_110 ⟨by decide, by decide⟩ hl.1 (Nat.le_of_ble_eq_true rfl) dX12_allowed_9) (fun x_4 p_4 => ?_)
    have pp_4 : (x_4.toInt ≠ 0 → 0 ≤ x2.toInt ∧ x2.toInt ≤ 3) ∧ (x_4.toInt = 0 → x2.toInt < 0 ∨ 3 < x2.toInt) := p_4.2
    have g_5 := z_rng x2
    refine bz_ne (tgt := 18) hx hb rfl dX12_allowed_12 (by decide) (fun c_6 => ?_) (fun c_6 => ?_)
    · skip
      replace pp_4 := pp_4.1 c_6
      refine lv_sipush (v := 1290) hx hb dX12_allowed_18 (by decide) ?_
      refine lv_iload_n hx hb dX12_allowed_21 rfl (lv_at hl 1 rfl) ?_
      refine lv_imul hx hb dX12_allowed_22 ?_
      refine lv_topi (fun x_7 ex_7 => ?_)
      refine lv_istore (lv' := [(4, .int x_7), (0, .ref a0), (1, .int x1), (2, .int x2), (3, .int x3)]) hx hb dX12_allowed_23 hl (by decide) rfl (fun ls hl => ?_)
      refine lv_aload_n hx hb dX12_allowed_25 rfl (lv_at hl 1 rfl) ?_
      refine mg_0 C hs hP ha0 hk0 wf_X12_8 dX12_allowed_26 ?_
      have hf_8 := hO.r (j := 0) ha0 hk0 (rfl : zX 11 0 = some (40, 47730))
      refine lv_iload hx hb dX12_allowed_29 (lv_at hl 0 rfl) ?_
      refine lv_iconst (v := 5) hx hb dX12_allowed_31 (by decide) ?_
      refine lv_iadd hx hb dX12_allowed_32 ?_
      refine lv_topi (fun x_9 ex_9 => ?_)
      obtain ⟨f_7, l_7, u_7⟩ := z_mul ex_7 ti_1290 rfl
      try replace f_7 : x_7.toInt = 1290 * x1.toInt := by omega
      clear l_7 u_7
      have hbs_11 : zRow x_7.toInt := zRow.of (t := x1.toInt) (by omega) (by omega)
      have hbl_hbs_11 := hbs_11.lin
      have hi_hr_10 : zEq x_9.toInt (x_7.toInt + 5) := by
        obtain ⟨f_9, l_9, u_9⟩ := z_add ex_9 rfl ti_5
        try replace f_9 : x_9.toInt = x_7.toInt + 5 := by omega
        clear l_9 u_9
        show x_9.toInt = (x_7.toInt + 5)
        omega
      have hl_hr_10 : (5 : Int) ≤ 5 ∧ 5 ≤ (5 : Int) := by decide
      have hid_hr_10 : (x_7.toInt + 5) = x_7.toInt + (5) := by simp only [Int.add_assoc, Int.add_sub_assoc]
      have hr_10 := z_cell (lo := 2) (hi := 8) hbs_11 hi_hr_10 hid_hr_10 hl_hr_10 (by decide)
      replace hid_hr_10 : zEq (x_7.toInt + 5) (x_7.toInt + (5)) := hid_hr_10
      have hin_12 : vp_in x_9 (zn K (zr K a0 0)) := vp_in_iff.mpr (by rw [(hf_8.2.2 (by decide))]; exact hr_10.in)
      refine mld_40 C hs hP hf_8.1 hf_8.2.1 hin_12 dX12_allowed_33 ?_
      have ep_13 : x_9.toNatClampNeg = (x_7.toInt + 5).toNat := z_posE hi_hr_10
      rw [ep_13]
      refine lv_iconst (v := 1) hx hb dX12_allowed_34 (by decide) ?_
      refine bi_eq (tgt := 41) hx hb rfl ti_1 dX12_allowed_35 (by decide) (fun c_14 => ?_) (fun c_14 => ?_)
      · skip
        refine lv_aload_n hx hb dX12_allowed_41 rfl (lv_at hl 1 rfl) ?_
        refine lv_iload hx hb dX12_allowed_42 (lv_at hl 0 rfl) ?_
        refine lv_iload_n hx hb dX12_allowed_44 rfl (lv_at hl 3 rfl) ?_
        refine lv_iload_n hx hb dX12_allowed_45 rfl (lv_at hl 4 rfl) ?_
        refine lv_iconst (v := 0) hx hb dX12_allowed_46 (by decide) ?_
        have g_15 := z_rng x3
        have hq_16 : 0 ≤ x2.toInt ∧ x2.toInt ≤ 3 := by ((try simp only [ti_0]); first | assumption | omega | (intros; omega))
        refine zcS (zrV (As := [.int x_7, .int x2, .int x3, .int 0]) (b := a0) (rest := []) C hs hP hS (c_X12_meets l D K hM f A hT a0 ha0 hk0 x_7 x2 x3 0 hbs_11 hq_16) m_X12_meets wm_X12_201 (zrecv hs hP ha0 (zF_11 hk0) rfl) ⟨by decide, by decide⟩ hl.1 (Nat.le_of_ble_eq_true rfl) dX12_allowed_47) (fun x_17 p_17 => ?_)
        have pp_17 : (x_17.toInt ≤ 0 → 0 ≤ x3.toInt ∧ x3.toInt ≤ 59 ∧ x3.toInt < (A 40 (x_7.toInt + x2.toInt + 22).toNat).toInt ∧ ((0 : Int32).toInt ≠ 0 → (A 40 (x_7.toInt + 9).toNat).toInt = x2.toInt)) := p_17
        try simp only [ti_0] at pp_17
        refine lv_istore (lv' := [(5, .int x_17), (4, .int x_7), (0, .ref a0), (1, .int x1), (2, .int x2), (3, .int x3)]) hx hb dX12_allowed_50 hl (by decide) rfl (fun ls hl => ?_)
        refine lv_iload hx hb dX12_allowed_52 (lv_at hl 0 rfl) ?_
        refine bz_le (tgt := 63) hx hb rfl dX12_allowed_54 (by decide) (fun c_18 => ?_) (fun c_18 => ?_)
        · skip
          refine lv_aload_n hx hb dX12_allowed_63 rfl (lv_at hl 2 rfl) ?_
          refine lv_iload hx hb dX12_allowed_64 (lv_at hl 1 rfl) ?_
          refine lv_iload_n hx hb dX12_allowed_66 rfl (lv_at hl 4 rfl) ?_
          have hq_19 : 0 ≤ x2.toInt ∧ x2.toInt ≤ 3 := by (first | assumption | omega | (intros; omega))
          refine mcV (zrV (As := [.int x_7, .int x2]) (b := a0) (rest := []) C hs hP hS (c_X12_look l D K hM f A hT a0 ha0 hk0 x_7 x2 hbs_11 hq_19) m_X12_look wm_X12_205 (zrecv hs hP ha0 (zF_11 hk0) rfl) ⟨by decide, by decide⟩ hl.1 (Nat.le_of_ble_eq_true rfl) dX12_allowed_67) hS (fun f_20 A_20 H locs p_20 hP hS => ?_)
          obtain ⟨hT, hA_20, hF_20, pp_20⟩ := p_20
          have pp_20 : (f_20 16).toInt = (A 40 (x_7.toInt + 26).toNat).toInt := pp_20
          have FA := frA FA hA_20 (by decide)
          have FF := frF FF hF_20 (by decide)
          refine lv_aload_n hx hb dX12_allowed_70 rfl (lv_at hl 2 rfl) ?_
          refine lv_iload hx hb dX12_allowed_71 (lv_at hl 1 rfl) ?_
          refine lv_aload_n hx hb dX12_allowed_73 rfl (lv_at hl 2 rfl) ?_
          refine mg_13 C hs hP ha0 hk0 wf_X12_36 dX12_allowed_74 ?_
          have hf_21 := hO.r (j := 13) ha0 hk0 (rfl : zX 11 13 = some (53, 60))
          refine lv_iload_n hx hb dX12_allowed_77 rfl (lv_at hl 5 rfl) ?_
          have hin_22 : vp_in x3 (zn K (zr K a0 13)) := vp_in_iff.mpr (by rw [(hf_21.2.2 (by decide))]; refine ⟨?_, ?_⟩ <;> omega)
          refine mld_53 C hs hP hf_21.1 hf_21.2.1 hin_22 dX12_allowed_78 ?_
          have tv_23 := ra_53 hT (vp_in_iff.mp hin_22).1 (by have h7 := (vp_in_iff.mp hin_22).2; rw [(hf_21.2.2 (by decide))] at h7; exact h7)
          have g_24 := z_rng (A_20 53 x3.toNatClampNeg)
          have hq_25 : 0 ≤ (A_20 53 x3.toNatClampNeg).toInt ∧ (A_20 53 x3.toNatClampNeg).toInt ≤ 59 := by (first | assumption | omega | (intros; omega))
          have ev_27 : f_20 11 = f 11 := by rw [hF_20 11 (by decide)]
          have hq_26 : (f_20 11).toInt ≤ 1990000000 := by rw [ev_27] <;> (first | assumption | omega | (intros; omega))
          refine mcI (zrV (As := [.int x_7, .int (A_20 53 x3.toNatClampNeg)]) (b := a0) (rest := []) C hs hP hS (c_X12_allows l D K hM f_20 A_20 hT a0 ha0 hk0 x_7 (A_20 53 x3.toNatClampNeg) hbs_11 hq_25 hq_26) m_X12_allows wm_X12_208 (zrecv hs hP ha0 (zF_11 hk0) rfl) ⟨by decide, by decide⟩ hl.1 (Nat.le_of_ble_eq_true rfl) dX12_allowed_79) hS (fun x_28 f_28 A_28 H locs p_28 hP hS => ?_)
          obtain ⟨hT, hA_28, hF_28, pp_28⟩ := p_28
          have pp_28 : (f_20 11).toInt ≤ (f_28 11).toInt ∧ (f_28 11).toInt ≤ (f_20 11).toInt + 3 ∧ ((f_20 12).toInt ≠ 0 → (f_28 11).toInt = (f_20 11).toInt) := pp_28
          have ev_29 : f_20 11 = f 11 := by rw [hF_20 11 (by decide)]
          have ev_30 : f_20 12 = f 12 := by rw [hF_20 12 (by decide)]
          rw [ev_29, ev_30] at pp_28
          have FA := frA FA hA_28 (by decide)
          have FF := frF FF hF_28 (by decide)
          exact maI hQ hx hb hr hlk hP hS ⟨hT, FA, FF, (by (try dsimp only); (first | omega | (intro h9; omega) | (simp; done) | (refine ⟨?_, ?_⟩ <;> intros <;> first | trivial | omega) | (refine ⟨?_, ?_, ?_⟩ <;> intros <;> first | trivial | omega)))⟩ dX12_allowed_82
        · skip
          refine lv_bipush (v := (-10)) hx hb dX12_allowed_57 (by decide) ?_
          refine lv_iload hx hb dX12_allowed_59 (lv_at hl 0 rfl) ?_
          refine lv_isub hx hb dX12_allowed_61 ?_
          refine lv_topi (fun x_31 ex_31 => ?_)
          exact maI hQ hx hb hr hlk hP hS ⟨hT, FA, FF, (by (try dsimp only); (first | omega | (intro h9; omega) | (simp; done) | (refine ⟨?_, ?_⟩ <;> intros <;> first | trivial | omega) | (refine ⟨?_, ?_, ?_⟩ <;> intros <;> first | trivial | omega)))⟩ dX12_allowed_62
      · skip
        refine lv_bipush (v := (-4)) hx hb dX12_allowed_38 (by decide) ?_
        exact maI hQ hx hb hr hlk hP hS ⟨hT, FA, FF, (by (try dsimp only); (try simp only [ti_m4]); (first | omega | (intro h9; omega) | (simp; done) | (refine ⟨?_, ?_⟩ <;> intros <;> first | trivial | omega) | (refine ⟨?_, ?_, ?_⟩ <;> intros <;> first | trivial | omega)))⟩ dX12_allowed_40
    · skip
      replace pp_4 := pp_4.2 c_6
      refine lv_bipush (v := (-2)) hx hb dX12_allowed_15 (by decide) ?_
      exact maI hQ hx hb hr hlk hP hS ⟨hT, FA, FF, (by (try dsimp only); (try simp only [ti_m2]); (first | omega | (intro h9; omega) | (simp; done) | (refine ⟨?_, ?_⟩ <;> intros <;> first | trivial | omega) | (refine ⟨?_, ?_, ?_⟩ <;> intros <;> first | trivial | omega)))⟩ dX12_allowed_17
