set_option maxHeartbeats 4000000 in
set_option maxRecDepth 100000 in
theorem c_X12_look (l : Launch) (D : va_G) (K : zK) (hM : mK K) (f : Nat → Int32) (A : Nat → Nat → Int32) (hT : mT f A) (a0 : Nat) (ha0 : a0 ∈ zl K) (hk0 : zk K a0 = 11) (x1 : Int32) (x2 : Int32) (hp0 : zRow x1.toInt) (hp1 : 0 ≤ x2.toInt ∧ x2.toInt ≤ 3) : Met l yX12_look (zc yX12_look cX12_look 4 none) (rmd 0) (va_Pc [.ref a0, .int x1, .int x2] (zB D K (mV K f A))) (mQv D K (fun f' A' => mT f' A' ∧ (∀ k, k ∉ ([53, 55] : List Nat) → A' k = A k) ∧ (∀ k, k ∉ ([14, 16] : List Nat) → f' k = f k) ∧ (f' 16).toInt = (A 40 (x1.toInt + 26).toNat).toInt)) 0 0 (zA K) := by
  refine zin (by decide) (Nat.le_of_ble_eq_true rfl) ?_
  intro p e s m args below meth c ls Q hQ C hr hlk hP hs hl
  have C : CallFix p m c cX12_look 4 s args zw RX12 := C
  obtain ⟨hx, hb, hml, hown, hts⟩ := id C
  have hO := hM.1
  have hS : va_S (zA K) s.heap s.heap [] := va_S.rf
  have FA : ∀ k, k ∉ ([53, 55] : List Nat) → A k = A k := fun _ _ => rfl
  have FF : ∀ k, k ∉ ([14, 16] : List Nat) → f k = f k := fun _ _ => rfl
  have hl : lv_has ls 4 [(0, .ref a0), (1, .int x1), (2, .int x2)] := hl
  have hb0 := hp0.lin
  refine lv_aload_n hx hb dX12_look_0 rfl (lv_at hl 0 rfl) ?_
  refine lv_iconst (v := 0) hx hb dX12_look_1 (by decide) ?_
  refine mp_14 C hM hs hP hS ha0 hT hk0 wf_X12_117 (show 0 ≤ (0 : Int32).toInt ∧ (0 : Int32).toInt ≤ 60 from by rw [ti_0]; omega) dX12_look_2 (fun f_1 H locs hE_1 hT hP hS => ?_)
  have FF := frF FF (frFu hE_1) (by decide)
  refine lv_iconst (v := 0) hx hb dX12_look_5 (by decide) ?_
  refine lv_istore_n (lv' := [(3, .int 0), (0, .ref a0), (1, .int x1), (2, .int x2)]) hx hb dX12_look_6 rfl hl (by decide) rfl (fun ls hl => ?_)
  have L_7_3 : ∀ (n_3 : Nat) (f_4 : Nat → Int32) (A_4 : Nat → Nat → Int32) (H : Heap) (locs : List Loc) (y_2 : Int32) (ls : Array Slot), (2147483648 - y_2.toInt).toNat < n_3 → 0 ≤ y_2.toInt → (f_4 14).toInt = y_2.toInt → (∀ k, k ∉ ([53, 55] : List Nat) → A_4 k = A k) → (∀ k, k ∉ ([14, 16] : List Nat) → f_4 k = f k) → mT f_4 A_4 → va_P D vwCl (zW K (mV K f_4 A_4)) H → va_S (zA K) s.heap H locs → lv_has ls 4 [(3, .int y_2), (0, .ref a0), (1, .int x1), (2, .int x2)] → W p l e (rmd 0) s m args below meth c H locs 0 0 Q (F0 m 7 ls []) := by
    intro n_3
    induction n_3 with
    | zero => intro f_4 A_4 H locs y_2 ls hm_3; exact absurd hm_3 (Nat.not_lt_zero _)
    | succ n_3 ih_3 =>
      intro f_4 A_4 H locs y_2 ls hm_3 iv_4_0 iv_4_1 FA_4 FF_4 hT hP hS hl
      have FA := FA_4
      have FF := FF_4
      refine lv_iload_n hx hb dX12_look_7 rfl (lv_at hl 0 rfl) ?_
      refine lv_aload_n hx hb dX12_look_8 rfl (lv_at hl 1 rfl) ?_
      refine mg_0 C hs hP ha0 hk0 wf_X12_8 dX12_look_9 ?_
      have hf_6 := hO.r (j := 0) ha0 hk0 (rfl : zX 11 0 = some (40, 47730))
      refine lv_iload_n hx hb dX12_look_12 rfl (lv_at hl 2 rfl) ?_
      refine lv_bipush (v := 22) hx hb dX12_look_13 (by decide) ?_
      refine lv_iadd hx hb dX12_look_15 ?_
      refine lv_topi (fun x_7 ex_7 => ?_)
      refine lv_iload_n hx hb dX12_look_16 rfl (lv_at hl 3 rfl) ?_
      refine lv_iadd hx hb dX12_look_17 ?_
      refine lv_topi (fun x_8 ex_8 => ?_)
      have g_9 := z_rng x1
      obtain ⟨f_7, l_7, u_7⟩ := z_add ex_7 rfl ti_22
      try replace f_7 : x_7.toInt = x1.toInt + 22 := by omega
      have g_10 := z_rng x2
      obtain ⟨f_8, l_8, u_8⟩ := z_add ex_8 rfl rfl
      try replace f_8 : x_8.toInt = x_7.toInt + x2.toInt := by omega
      have hi_hr_11 : x_8.toInt = x1.toInt + (x2.toInt + 22) := by omega
      have hr_11 := z_cell (lo := 22) (hi := 25) hp0 hi_hr_11 (by omega) (by decide)
      have hin_12 : vp_in x_8 (zn K (zr K a0 0)) := vp_in_iff.mpr (by rw [(hf_6.2.2 (by decide))]; exact hr_11.in)
      refine mld_40 C hs hP hf_6.1 hf_6.2.1 hin_12 dX12_look_18 ?_
      have ep_13 : x_8.toNatClampNeg = (x1.toInt + x2.toInt + 22).toNat := z_pos (hi_hr_11.trans (by omega))
      rw [ep_13]
      have ev_14 : A_4 40 (x1.toInt + x2.toInt + 22).toNat = A 40 (x1.toInt + x2.toInt + 22).toNat := by rw [FA_4 40 (by decide)]
      have tv_15 := rv_22 hT hr_11
      rw [ep_13] at tv_15
      rw [ev_14] at tv_15
      rw [ev_14]
      refine bi_ge (tgt := 61) hx hb rfl rfl dX12_look_19 (by decide) (fun c_16 => ?_) (fun c_16 => ?_)
      · skip
        refine lv_aload_n hx hb dX12_look_61 rfl (lv_at hl 1 rfl) ?_
        refine lv_aload_n hx hb dX12_look_62 rfl (lv_at hl 1 rfl) ?_
        refine mg_0 C hs hP ha0 hk0 wf_X12_8 dX12_look_63 ?_
        refine lv_iload_n hx hb dX12_look_66 rfl (lv_at hl 2 rfl) ?_
        refine lv_bipush (v := 26) hx hb dX12_look_67 (by decide) ?_
        refine lv_iadd hx hb dX12_look_69 ?_
        refine lv_topi (fun x_37 ex_37 => ?_)
        obtain ⟨f_37, l_37, u_37⟩ := z_add ex_37 rfl ti_26
        try replace f_37 : x_37.toInt = x1.toInt + 26 := by omega
        have hi_hr_38 : x_37.toInt = x1.toInt + (26) := by omega
        have hr_38 := z_cell (lo := 26) (hi := 26) hp0 hi_hr_38 (by decide) (by decide)
        have hin_39 : vp_in x_37 (zn K (zr K a0 0)) := vp_in_iff.mpr (by rw [(hf_6.2.2 (by decide))]; exact hr_38.in)
        refine mld_40 C hs hP hf_6.1 hf_6.2.1 hin_39 dX12_look_70 ?_
        have ep_40 : x_37.toNatClampNeg = (x1.toInt + 26).toNat := z_pos (hi_hr_38.trans (by omega))
        rw [ep_40]
        have ev_41 : A_4 40 (x1.toInt + 26).toNat = A 40 (x1.toInt + 26).toNat := by rw [FA_4 40 (by decide)]
        have tv_42 := rv_26 hT hr_38
        rw [ep_40] at tv_42
        rw [ev_41] at tv_42
        rw [ev_41]
        have g_44 := z_rng (A 40 (x1.toInt + 26).toNat)
        refine mp_16 C hM hs hP hS ha0 hT hk0 wf_X12_127 (show 0 ≤ (A 40 (x1.toInt + 26).toNat).toInt ∧ (A 40 (x1.toInt + 26).toNat).toInt ≤ 4 from by omega) dX12_look_71 (fun f_43 H locs hE_43 hT hP hS => ?_)
        have FF := frF FF (frFu hE_43) (by decide)
        refine lv_iconst (v := 0) hx hb dX12_look_74 (by decide) ?_
        refine lv_istore_n (lv' := [(3, .int 0), (0, .ref a0), (1, .int x1), (2, .int x2)]) hx hb dX12_look_75 rfl hl (by decide) rfl (fun ls hl => ?_)
        have L_76_46 : ∀ (n_46 : Nat) (A_47 : Nat → Nat → Int32) (H : Heap) (locs : List Loc) (y_45 : Int32) (ls : Array Slot), (2147483648 - y_45.toInt).toNat < n_46 → 0 ≤ y_45.toInt → (∀ k, k ∉ ([53, 55] : List Nat) → A_47 k = A k) → mT f_43 A_47 → va_P D vwCl (zW K (mV K f_43 A_47)) H → va_S (zA K) s.heap H locs → lv_has ls 4 [(3, .int y_45), (0, .ref a0), (1, .int x1), (2, .int x2)] → W p l e (rmd 0) s m args below meth c H locs 0 0 Q (F0 m 76 ls []) := by
          intro n_46
          induction n_46 with
          | zero => intro A_47 H locs y_45 ls hm_46; exact absurd hm_46 (Nat.not_lt_zero _)
          | succ n_46 ih_46 =>
            intro A_47 H locs y_45 ls hm_46 iv_47_0 FA_47 hT hP hS hl
            have FA := FA_47
            refine lv_iload_n hx hb dX12_look_76 rfl (lv_at hl 0 rfl) ?_
            refine lv_aload_n hx hb dX12_look_77 rfl (lv_at hl 1 rfl) ?_
            refine mg_16 C hs hP ha0 hk0 wf_X12_127 dX12_look_78 ?_
            have ev_49 : f_43 16 = A 40 (x1.toInt + 26).toNat := by rw [hE_43, pk_us]
            rw [ev_49]
            have tf_50 : 0 ≤ (A 40 (x1.toInt + 26).toNat).toInt ∧ (A 40 (x1.toInt + 26).toNat).toInt ≤ 4 := by rw [← ev_49]; exact hT.1 16
            refine bi_ge (tgt := 107) hx hb rfl rfl dX12_look_81 (by decide) (fun c_51 => ?_) (fun c_51 => ?_)
            · skip
              have ev_52 : f_43 16 = A 40 (x1.toInt + 26).toNat := by rw [hE_43, pk_us]
              exact maV hQ hx hb hr hlk hP hS ⟨hT, FA, FF, (by (try dsimp only); rw [ev_52] <;> (first | omega | (intro h9; omega) | (simp; done) | (refine ⟨?_, ?_⟩ <;> intros <;> first | trivial | omega) | (refine ⟨?_, ?_, ?_⟩ <;> intros <;> first | trivial | omega)))⟩ dX12_look_107
            · skip
              refine lv_aload_n hx hb dX12_look_84 rfl (lv_at hl 1 rfl) ?_
              refine mg_15 C hs hP ha0 hk0 wf_X12_39 dX12_look_85 ?_
              have hf_53 := hO.r (j := 15) ha0 hk0 (rfl : zX 11 15 = some (55, 4))
              refine lv_iload_n hx hb dX12_look_88 rfl (lv_at hl 0 rfl) ?_
              refine lv_aload_n hx hb dX12_look_89 rfl (lv_at hl 1 rfl) ?_
              refine mg_0 C hs hP ha0 hk0 wf_X12_8 dX12_look_90 ?_
              refine lv_iload_n hx hb dX12_look_93 rfl (lv_at hl 2 rfl) ?_
              refine lv_bipush (v := 27) hx hb dX12_look_94 (by decide) ?_
              refine lv_iadd hx hb dX12_look_96 ?_
              refine lv_topi (fun x_54 ex_54 => ?_)
              refine lv_iload_n hx hb dX12_look_97 rfl (lv_at hl 0 rfl) ?_
              refine lv_iadd hx hb dX12_look_98 ?_
              refine lv_topi (fun x_55 ex_55 => ?_)
              obtain ⟨f_54, l_54, u_54⟩ := z_add ex_54 rfl ti_27
              try replace f_54 : x_54.toInt = x1.toInt + 27 := by omega
              have g_56 := z_rng y_45
              obtain ⟨f_55, l_55, u_55⟩ := z_add ex_55 rfl rfl
              try replace f_55 : x_55.toInt = x_54.toInt + y_45.toInt := by omega
              have hi_hr_57 : x_55.toInt = x1.toInt + (y_45.toInt + 27) := by omega
              have hr_57 := z_cell (lo := 27) (hi := 30) hp0 hi_hr_57 (by omega) (by decide)
              have hin_58 : vp_in x_55 (zn K (zr K a0 0)) := vp_in_iff.mpr (by rw [(hf_6.2.2 (by decide))]; exact hr_57.in)
              refine mld_40 C hs hP hf_6.1 hf_6.2.1 hin_58 dX12_look_99 ?_
              have ep_59 : x_55.toNatClampNeg = (x1.toInt + y_45.toInt + 27).toNat := z_pos (hi_hr_57.trans (by omega))
              rw [ep_59]
              have ev_60 : A_47 40 (x1.toInt + y_45.toInt + 27).toNat = A 40 (x1.toInt + y_45.toInt + 27).toNat := by rw [FA_47 40 (by decide)]
              have tv_61 := rv_27 hT hr_57
              rw [ep_59] at tv_61
              rw [ev_60] at tv_61
              rw [ev_60]
              have hin_62 : vp_in y_45 (zn K (zr K a0 15)) := vp_in_iff.mpr (by rw [(hf_53.2.2 (by decide))]; refine ⟨?_, ?_⟩ <;> omega)
              have g_64 := z_rng (A 40 (x1.toInt + y_45.toInt + 27).toNat)
              refine mst_55 C hM hs hP hS hf_53.1 hT hf_53.2.1 hin_62 (show 0 ≤ (A 40 (x1.toInt + y_45.toInt + 27).toNat).toInt ∧ (A 40 (x1.toInt + y_45.toInt + 27).toNat).toInt ≤ 59 from by omega) dX12_look_100 (fun A_63 H locs hE_63 hT hP hS => ?_)
              have FA := frA FA (frAu hE_63) (by decide)
              obtain ⟨x_65, ex_65⟩ : ∃ y : Int32, y = y_45 + 1 := ⟨_, rfl⟩
              refine lv_iinc (v := x_65) (lv' := [(3, .int x_65), (0, .ref a0), (1, .int x1), (2, .int x2)]) hx hb dX12_look_101 hl (k := 0) rfl (by rw [ex_65]; rfl) (by decide) rfl (fun ls hl => ?_)
              refine lv_goto (tgt := 76) hx hb dX12_look_104 (by decide) ?_
              obtain ⟨f_65, l_65, u_65⟩ := z_add ex_65 rfl ti_1
              try replace f_65 : x_65.toInt = y_45.toInt + 1 := by omega
              exact ih_46 A_63 _ _ x_65 _ (by omega) (by omega) FA hT hP hS (lv_sub hl [0, 1, 2, 3] rfl)
        have g_66 := z_rng (A 40 (x1.toInt + x2.toInt + 22).toNat)
        have g_67 := z_rng y_2
        exact L_76_46 _ A_4 _ _ 0 _ (Nat.lt_succ_self _) (by (try simp only [ti_0]); omega) FA hT hP hS (lv_sub hl [0, 1, 2, 3] rfl)
      · skip
        refine lv_aload_n hx hb dX12_look_22 rfl (lv_at hl 1 rfl) ?_
        refine mg_13 C hs hP ha0 hk0 wf_X12_36 dX12_look_23 ?_
        have hf_68 := hO.r (j := 13) ha0 hk0 (rfl : zX 11 13 = some (53, 60))
        refine lv_iload_n hx hb dX12_look_26 rfl (lv_at hl 0 rfl) ?_
        refine lv_aload_n hx hb dX12_look_27 rfl (lv_at hl 1 rfl) ?_
        refine mg_0 C hs hP ha0 hk0 wf_X12_8 dX12_look_28 ?_
        refine lv_iload_n hx hb dX12_look_31 rfl (lv_at hl 2 rfl) ?_
        refine lv_sipush (v := 230) hx hb dX12_look_32 (by decide) ?_
        refine lv_iadd hx hb dX12_look_35 ?_
        refine lv_topi (fun x_69 ex_69 => ?_)
        refine lv_bipush (v := 60) hx hb dX12_look_36 (by decide) ?_
        refine lv_iload_n hx hb dX12_look_38 rfl (lv_at hl 3 rfl) ?_
        refine lv_imul hx hb dX12_look_39 ?_
        refine lv_topi (fun x_70 ex_70 => ?_)
        refine lv_iadd hx hb dX12_look_40 ?_
        refine lv_topi (fun x_71 ex_71 => ?_)
        refine lv_iload_n hx hb dX12_look_41 rfl (lv_at hl 0 rfl) ?_
        refine lv_iadd hx hb dX12_look_42 ?_
        refine lv_topi (fun x_72 ex_72 => ?_)
        obtain ⟨f_69, l_69, u_69⟩ := z_add ex_69 rfl ti_230
        try replace f_69 : x_69.toInt = x1.toInt + 230 := by omega
        obtain ⟨f_70, l_70, u_70⟩ := z_mul ex_70 ti_60 rfl
        try replace f_70 : x_70.toInt = 60 * x2.toInt := by omega
        obtain ⟨f_71, l_71, u_71⟩ := z_add ex_71 rfl rfl
        try replace f_71 : x_71.toInt = x_69.toInt + x_70.toInt := by omega
        have g_73 := z_rng y_2
        obtain ⟨f_72, l_72, u_72⟩ := z_add ex_72 rfl rfl
        try replace f_72 : x_72.toInt = x_71.toInt + y_2.toInt := by omega
        have hi_hr_74 : x_72.toInt = x1.toInt + (60 * x2.toInt + y_2.toInt + 230) := by omega
        have hr_74 := z_cell (lo := 170) (hi := 469) hp0 hi_hr_74 (by omega) (by decide)
        have hin_75 : vp_in x_72 (zn K (zr K a0 0)) := vp_in_iff.mpr (by rw [(hf_6.2.2 (by decide))]; exact hr_74.in)
        refine mld_40 C hs hP hf_6.1 hf_6.2.1 hin_75 dX12_look_43 ?_
        have ep_76 : x_72.toNatClampNeg = (x1.toInt + 60 * x2.toInt + y_2.toInt + 230).toNat := z_pos (hi_hr_74.trans (by omega))
        rw [ep_76]
        have ev_77 : A_4 40 (x1.toInt + 60 * x2.toInt + y_2.toInt + 230).toNat = A 40 (x1.toInt + 60 * x2.toInt + y_2.toInt + 230).toNat := by rw [FA_4 40 (by decide)]
        have tv_78 := rv_170 hT hr_74
        rw [ep_76] at tv_78
        rw [ev_77] at tv_78
        rw [ev_77]
        have hin_79 : vp_in y_2 (zn K (zr K a0 13)) := vp_in_iff.mpr (by rw [(hf_68.2.2 (by decide))]; refine ⟨?_, ?_⟩ <;> omega)
        have g_81 := z_rng (A 40 (x1.toInt + 60 * x2.toInt + y_2.toInt + 230).toNat)
        refine mst_53 C hM hs hP hS hf_68.1 hT hf_68.2.1 hin_79 (show 0 ≤ (A 40 (x1.toInt + 60 * x2.toInt + y_2.toInt + 230).toNat).toInt ∧ (A 40 (x1.toInt + 60 * x2.toInt + y_2.toInt + 230).toNat).toInt ≤ 59 from by omega) dX12_look_44 (fun A_80 H locs hE_80 hT hP hS => ?_)
        have FA := frA FA (frAu hE_80) (by decide)
        refine lv_aload_n hx hb dX12_look_45 rfl (lv_at hl 1 rfl) ?_
        refine lv_dup hx hb dX12_look_46 rfl ?_
        refine mg_14 C hs hP ha0 hk0 wf_X12_117 dX12_look_47 ?_
        have tf_82 : 0 ≤ (f_4 14).toInt ∧ (f_4 14).toInt ≤ 60 := hT.1 14
        refine lv_iconst (v := 1) hx hb dX12_look_50 (by decide) ?_
        refine lv_iadd hx hb dX12_look_51 ?_
        refine lv_topi (fun x_83 ex_83 => ?_)
        have g_85 := z_rng (f_4 14)
        obtain ⟨f_83, l_83, u_83⟩ := z_add ex_83 rfl ti_1
        try replace f_83 : x_83.toInt = (f_4 14).toInt + 1 := by omega
        refine mp_14 C hM hs hP hS ha0 hT hk0 wf_X12_117 (show 0 ≤ x_83.toInt ∧ x_83.toInt ≤ 60 from by omega) dX12_look_52 (fun f_84 H locs hE_84 hT hP hS => ?_)
        have FF := frF FF (frFu hE_84) (by decide)
        obtain ⟨x_86, ex_86⟩ : ∃ y : Int32, y = y_2 + 1 := ⟨_, rfl⟩
        refine lv_iinc (v := x_86) (lv' := [(3, .int x_86), (0, .ref a0), (1, .int x1), (2, .int x2)]) hx hb dX12_look_55 hl (k := 0) rfl (by rw [ex_86]; rfl) (by decide) rfl (fun ls hl => ?_)
        refine lv_goto (tgt := 7) hx hb dX12_look_58 (by decide) ?_
        obtain ⟨f_86, l_86, u_86⟩ := z_add ex_86 rfl ti_1
        try replace f_86 : x_86.toInt = y_2.toInt + 1 := by omega
        have g_87 := z_rng (A 40 (x1.toInt + x2.toInt + 22).toNat)
        have ev_88 : f_84 14 = x_83 := by rw [hE_84, pk_us]
        exact ih_3 f_84 A_80 _ _ x_86 _ (by omega) (by omega) (by rw [ev_88] <;> omega) FA FF hT hP hS (lv_sub hl [0, 1, 2, 3] rfl)
  have ev_89 : f_1 14 = (0 : Int32) := by rw [hE_1, pk_us]
  have ev_89_i : (f_1 14).toInt = 0 := by rw [ev_89, ti_0]
  exact L_7_3 _ f_1 A _ _ 0 _ (Nat.lt_succ_self _) (by (try simp only [ti_0]); omega) (by rw [ev_89] <;> omega) FA FF hT hP hS (lv_sub hl [0, 1, 2, 3] rfl)
set_option maxHeartbeats 4000000 in
set_option maxRecDepth 100000 in
theorem c_X12_playMeets (l : Launch) (D : va_G) (K : zK) (hM : mK K) (f : Nat → Int32) (A : Nat → Nat → Int32) (hT : mT f A) (a0 : Nat) (ha0 : a0 ∈ zl K) (hk0 : zk K a0 = 11) (x1 : Int32) (x2 : Int32) (x3 : Int32) (x4 : Int32) (hp0 : zRow x1.toInt) (hp1 : 0 ≤ x2.toInt ∧ x2.toInt ≤ 3) (hp2 : (f 11).toInt ≤ 1980000000) : Met l yX12_playMeets (zc yX12_playMeets cX12_playMeets 6 (some .int)) (rmd 3) (va_Pc [.ref a0, .int x1, .int x2, .int x3, .int x4] (zB D K (mV K f A))) (mQi D K (fun r f' A' => mT f' A' ∧ (∀ k, k ∉ ([50, 53, 55] : List Nat) → A' k = A k) ∧ (∀ k, k ∉ ([11, 14, 16, 17] : List Nat) → f' k = f k) ∧ (f 11).toInt ≤ (f' 11).toInt ∧ (f' 11).toInt ≤ (f 11).toInt + 3 ∧ ((f 12).toInt ≠ 0 → (f' 11).toInt = (f 11).toInt) ∧ (r.toInt ≤ 0 → 0 ≤ x3.toInt ∧ x3.toInt < (A 40 (x1.toInt + x2.toInt + 22).toNat).toInt ∧ (A 40 (x1.toInt + 9).toNat).toInt = x2.toInt))) 0 0 (zA K) := by
  refine zin (by decide) (Nat.le_of_ble_eq_true rfl) ?_
  intro p e s m args below meth c ls Q hQ C hr hlk hP hs hl
  have C : CallFix p m c cX12_playMeets 6 s args zw RX12 := C
  obtain ⟨hx, hb, hml, hown, hts⟩ := id C
  have hO := hM.1
  have hS : va_S (zA K) s.heap s.heap [] := va_S.rf
  have FA : ∀ k, k ∉ ([50, 53, 55] : List Nat) → A k = A k := fun _ _ => rfl
  have FF : ∀ k, k ∉ ([11, 14, 16, 17] : List Nat) → f k = f k := fun _ _ => rfl
  have hl : lv_has ls 6 [(0, .ref a0), (1, .int x1), (2, .int x2), (3, .int x3), (4, .int x4)] := hl
  have hb0 := hp0.lin
  refine lv_aload_n hx hb dX12_playMeets_0 rfl (lv_at hl 0 rfl) ?_
  refine lv_iconst (v := 0) hx hb dX12_playMeets_1 (by decide) ?_
  refine mp_17 C hM hs hP hS ha0 hT hk0 wf_X12_198 trivial dX12_playMeets_2 (fun f_1 H locs hE_1 hT hP hS => ?_)
  have FF := frF FF (frFu hE_1) (by decide)
  refine lv_aload_n hx hb dX12_playMeets_5 rfl (lv_at hl 0 rfl) ?_
  refine lv_iload_n hx hb dX12_playMeets_6 rfl (lv_at hl 1 rfl) ?_
  refine lv_iload_n hx hb dX12_playMeets_7 rfl (lv_at hl 2 rfl) ?_
  refine lv_iload_n hx hb dX12_playMeets_8 rfl (lv_at hl 3 rfl) ?_
  refine lv_iconst (v := 1) hx hb dX12_playMeets_9 (by decide) ?_
  have g_2 := z_rng x1
  have g_3 := z_rng x2
  have g_4 := z_rng x3
  have hq_5 : 0 ≤ x2.toInt ∧ x2.toInt ≤ 3 := by (try simp only [ti_1]); first | assumption | omega | (intros; omega)
  refine zcS (zrV (As := [.int x1, .int x2, .int x3, .int 1]) (b := a0) (rest := []) C hs hP hS (c_X12_meets l D K hM f_1 A hT a0 ha0 hk0 x1 x2 x3 1 hp0 hq_5) m_X12_meets wm_X12_201 (zrecv hs hP ha0 (zF_11 hk0) rfl) ⟨by decide, by decide⟩ hl.1 (Nat.le_of_ble_eq_true rfl) dX12_playMeets_10) (fun x_6 p_6 => ?_)
  have pp_6 : (x_6.toInt ≤ 0 → 0 ≤ x3.toInt ∧ x3.toInt ≤ 59 ∧ x3.toInt < (A 40 (x1.toInt + x2.toInt + 22).toNat).toInt ∧ ((1 : Int32).toInt ≠ 0 → (A 40 (x1.toInt + 9).toNat).toInt = x2.toInt)) := p_6
  try simp only [ti_1] at pp_6
  refine lv_istore (lv' := [(5, .int x_6), (0, .ref a0), (1, .int x1), (2, .int x2), (3, .int x3), (4, .int x4)]) hx hb dX12_playMeets_13 hl (by decide) rfl (fun ls hl => ?_)
  refine lv_iload hx hb dX12_playMeets_15 (lv_at hl 0 rfl) ?_
  refine bz_le (tgt := 23) hx hb rfl dX12_playMeets_17 (by decide) (fun c_7 => ?_) (fun c_7 => ?_)
  · skip
    refine lv_aload_n hx hb dX12_playMeets_23 rfl (lv_at hl 1 rfl) ?_
    refine lv_iload_n hx hb dX12_playMeets_24 rfl (lv_at hl 2 rfl) ?_
    refine lv_iload_n hx hb dX12_playMeets_25 rfl (lv_at hl 3 rfl) ?_
    have hq_8 : 0 ≤ x2.toInt ∧ x2.toInt ≤ 3 := by first | assumption | omega | (intros; omega)
    refine mcV (zrV (As := [.int x1, .int x2]) (b := a0) (rest := []) C hs hP hS (c_X12_look l D K hM f_1 A hT a0 ha0 hk0 x1 x2 hp0 hq_8) m_X12_look wm_X12_205 (zrecv hs hP ha0 (zF_11 hk0) rfl) ⟨by decide, by decide⟩ hl.1 (Nat.le_of_ble_eq_true rfl) dX12_playMeets_26) hS (fun f_9 A_9 H locs p_9 hP hS => ?_)
    obtain ⟨hT, hA_9, hF_9, pp_9⟩ := p_9
    have pp_9 : (f_9 16).toInt = (A 40 (x1.toInt + 26).toNat).toInt := pp_9
    have FA := frA FA hA_9 (by decide)
    have FF := frF FF hF_9 (by decide)
    refine lv_aload_n hx hb dX12_playMeets_29 rfl (lv_at hl 1 rfl) ?_
    refine lv_aload_n hx hb dX12_playMeets_30 rfl (lv_at hl 1 rfl) ?_
    refine lv_iload_n hx hb dX12_playMeets_31 rfl (lv_at hl 2 rfl) ?_
    refine lv_aload_n hx hb dX12_playMeets_32 rfl (lv_at hl 1 rfl) ?_
    refine mg_13 C hs hP ha0 hk0 wf_X12_36 dX12_playMeets_33 ?_
    have hf_10 := hO.r (j := 13) ha0 hk0 (rfl : zX 11 13 = some (53, 60))
    refine lv_iload_n hx hb dX12_playMeets_36 rfl (lv_at hl 4 rfl) ?_
    have hin_11 : vp_in x3 (zn K (zr K a0 13)) := vp_in_iff.mpr (by rw [(hf_10.2.2 (by decide))]; refine ⟨?_, ?_⟩ <;> omega)
    refine mld_53 C hs hP hf_10.1 hf_10.2.1 hin_11 dX12_playMeets_37 ?_
    have tv_12 := ra_53 hT (vp_in_iff.mp hin_11).1 (by have h7 := (vp_in_iff.mp hin_11).2; rw [(hf_10.2.2 (by decide))] at h7; exact h7)
    have g_13 := z_rng (A_9 53 x3.toNatClampNeg)
    have hq_14 : 0 ≤ (A_9 53 x3.toNatClampNeg).toInt ∧ (A_9 53 x3.toNatClampNeg).toInt ≤ 59 := by first | assumption | omega | (intros; omega)
    have ev_16 : f_9 11 = f 11 := by rw [hF_9 11 (by decide), hE_1, pk_un (show 11 ≠ 17 by decide)]
    have hq_15 : (f_9 11).toInt ≤ 1990000000 := by rw [ev_16]; first | assumption | omega | (intros; omega)
    refine mcI (zrV (As := [.int x1, .int (A_9 53 x3.toNatClampNeg)]) (b := a0) (rest := [.ref a0]) C hs hP hS (c_X12_allows l D K hM f_9 A_9 hT a0 ha0 hk0 x1 (A_9 53 x3.toNatClampNeg) hp0 hq_14 hq_15) m_X12_allows wm_X12_208 (zrecv hs hP ha0 (zF_11 hk0) rfl) ⟨by decide, by decide⟩ hl.1 (Nat.le_of_ble_eq_true rfl) dX12_playMeets_38) hS (fun x_17 f_17 A_17 H locs p_17 hP hS => ?_)
    obtain ⟨hT, hA_17, hF_17, pp_17⟩ := p_17
    have pp_17 : (f_9 11).toInt ≤ (f_17 11).toInt ∧ (f_17 11).toInt ≤ (f_9 11).toInt + 3 ∧ ((f_9 12).toInt ≠ 0 → (f_17 11).toInt = (f_9 11).toInt) := pp_17
    have ev_18 : f_9 11 = f 11 := by rw [hF_9 11 (by decide), hE_1, pk_un (show 11 ≠ 17 by decide)]
    have ev_19 : f_9 12 = f 12 := by rw [hF_9 12 (by decide), hE_1, pk_un (show 12 ≠ 17 by decide)]
    rw [ev_18, ev_19] at pp_17
    have FA := frA FA hA_17 (by decide)
    have FF := frF FF hF_17 (by decide)
    refine mp_17 C hM hs hP hS ha0 hT hk0 wf_X12_198 trivial dX12_playMeets_41 (fun f_20 H locs hE_20 hT hP hS => ?_)
    have FF := frF FF (frFu hE_20) (by decide)
    refine lv_aload_n hx hb dX12_playMeets_44 rfl (lv_at hl 1 rfl) ?_
    refine mg_17 C hs hP ha0 hk0 wf_X12_198 dX12_playMeets_45 ?_
    have ev_21 : f_20 17 = x_17 := by rw [hE_20, pk_us]
    rw [ev_21]
    refine bz_le (tgt := 61) hx hb rfl dX12_playMeets_48 (by decide) (fun c_22 => ?_) (fun c_22 => ?_)
    · skip
      refine lv_iconst (v := 0) hx hb dX12_playMeets_61 (by decide) ?_
      have ev_23 : f_20 11 = f_17 11 := by rw [hE_20, pk_un (show 11 ≠ 17 by decide)]
      exact maI hQ hx hb hr hlk hP hS ⟨hT, FA, FF, (by (try dsimp only); rw [ev_23] <;> (first | omega | (intro h9; omega) | (simp; done) | (refine ⟨?_, ?_⟩ <;> intros <;> first | trivial | omega) | (refine ⟨?_, ?_, ?_⟩ <;> intros <;> first | trivial | omega)))⟩ dX12_playMeets_62
    · skip
      refine lv_iload hx hb dX12_playMeets_51 (lv_at hl 5 rfl) ?_
      refine bz_ne (tgt := 61) hx hb rfl dX12_playMeets_53 (by decide) (fun c_24 => ?_) (fun c_24 => ?_)
      · skip
        refine lv_iconst (v := 0) hx hb dX12_playMeets_61 (by decide) ?_
        have ev_25 : f_20 11 = f_17 11 := by rw [hE_20, pk_un (show 11 ≠ 17 by decide)]
        exact maI hQ hx hb hr hlk hP hS ⟨hT, FA, FF, (by (try dsimp only); rw [ev_25] <;> (first | omega | (intro h9; omega) | (simp; done) | (refine ⟨?_, ?_⟩ <;> intros <;> first | trivial | omega) | (refine ⟨?_, ?_, ?_⟩ <;> intros <;> first | trivial | omega)))⟩ dX12_playMeets_62
      · skip
        refine lv_bipush (v := 6) hx hb dX12_playMeets_56 (by decide) ?_
        refine lv_goto (tgt := 62) hx hb dX12_playMeets_58 (by decide) ?_
        have ev_26 : f_20 11 = f_17 11 := by rw [hE_20, pk_un (show 11 ≠ 17 by decide)]
        exact maI hQ hx hb hr hlk hP hS ⟨hT, FA, FF, (by (try dsimp only); rw [ev_26] <;> (first | omega | (intro h9; omega) | (simp; done) | (refine ⟨?_, ?_⟩ <;> intros <;> first | trivial | omega) | (refine ⟨?_, ?_, ?_⟩ <;> intros <;> first | trivial | omega)))⟩ dX12_playMeets_62
  · skip
    refine lv_iload hx hb dX12_playMeets_20 (lv_at hl 0 rfl) ?_
    have ev_27 : f_1 11 = f 11 := by rw [hE_1, pk_un (show 11 ≠ 17 by decide)]
    have g_28 := z_rng x_6
    exact maI hQ hx hb hr hlk hP hS ⟨hT, FA, FF, (by (try dsimp only); rw [ev_27] <;> (first | omega | (intro h9; omega) | (simp; done) | (refine ⟨?_, ?_⟩ <;> intros <;> first | trivial | omega) | (refine ⟨?_, ?_, ?_⟩ <;> intros <;> first | trivial | omega)))⟩ dX12_playMeets_22
set_option maxHeartbeats 4000000 in
set_option maxRecDepth 100000 in
theorem c_X12_allowed (l : Launch) (D : va_G) (K : zK) (hM : mK K) (f : Nat → Int32) (A : Nat → Nat → Int32) (hT : mT f A) (a0 : Nat) (ha0 : a0 ∈ zl K) (hk0 : zk K a0 = 11) (x1 : Int32) (x2 : Int32) (x3 : Int32) (hp0 : (f 11).toInt ≤ 1970000000) : Met l yX12_allowed (zc yX12_allowed cX12_allowed 6 (some .int)) (rmd 3) (va_Pc [.ref a0, .int x1, .int x2, .int x3] (zB D K (mV K f A))) (mQi D K (fun r f' A' => mT f' A' ∧ (∀ k, k ∉ ([50, 53, 55] : List Nat) → A' k = A k) ∧ (∀ k, k ∉ ([11, 14, 16] : List Nat) → f' k = f k) ∧ (f 11).toInt ≤ (f' 11).toInt ∧ (f' 11).toInt ≤ (f 11).toInt + 3 ∧ ((f 12).toInt ≠ 0 → (f' 11).toInt = (f 11).toInt))) 0 0 (zA K) := by
  refine zin (by decide) (Nat.le_of_ble_eq_true rfl) ?_
  intro p e s m args below meth c ls Q hQ C hr hlk hP hs hl
  have C : CallFix p m c cX12_allowed 6 s args zw RX12 := C
  obtain ⟨hx, hb, hml, hown, hts⟩ := id C
  have hO := hM.1
  have hS : va_S (zA K) s.heap s.heap [] := va_S.rf
  have FA : ∀ k, k ∉ ([50, 53, 55] : List Nat) → A k = A k := fun _ _ => rfl
  have FF : ∀ k, k ∉ ([11, 14, 16] : List Nat) → f k = f k := fun _ _ => rfl
  have hl : lv_has ls 6 [(0, .ref a0), (1, .int x1), (2, .int x2), (3, .int x3)] := hl
  refine lv_aload_n hx hb dX12_allowed_0 rfl (lv_at hl 0 rfl) ?_
  refine lv_iload_n hx hb dX12_allowed_1 rfl (lv_at hl 1 rfl) ?_
  refine zcS (zrV (As := [.int x1]) (b := a0) (rest := []) C hs hP hS (c_X12_isTable l D K hM f A hT a0 ha0 hk0 x1) m_X12_isTable wm_X12_107 (zrecv hs hP ha0 (zF_11 hk0) rfl) ⟨by decide, by decide⟩ hl.1 (Nat.le_of_ble_eq_true rfl) dX12_allowed_2) (fun x_1 p_1 => ?_)
  have pp_1 : (x_1.toInt ≠ 0 → 0 ≤ x1.toInt ∧ x1.toInt ≤ 3) := p_1.2
  have g_2 := z_rng x1
  refine bz_eq (tgt := 15) hx hb rfl dX12_allowed_5 (by decide) (fun c_3 => ?_) (fun c_3 => ?_)
  · skip
    clear pp_1
    refine lv_bipush (v := (-2)) hx hb dX12_allowed_15 (by decide) ?_
    exact maI hQ hx hb hr hlk hP hS ⟨hT, FA, FF, (by (try dsimp only); (try simp only [ti_m2]); (first | omega | (intro h9; omega) | (simp; done) | (refine ⟨?_, ?_⟩ <;> intros <;> first | trivial | omega) | (refine ⟨?_, ?_, ?_⟩ <;> intros <;> first | trivial | omega)))⟩ dX12_allowed_17
  · skip
    replace pp_1 := pp_1 c_3
    refine lv_iload_n hx hb dX12_allowed_8 rfl (lv_at hl 2 rfl) ?_
    refine zcS (zrS (As := [.int x2]) (rest := []) C hs hP hS (c_X12_isSeat l D K hM f A hT x2) m_X12_isSeat wm_X12_110 ⟨by decide, by decide⟩ hl.1 (Nat.le_of_ble_eq_true rfl) dX12_allowed_9) (fun x_4 p_4 => ?_)
    have pp_4 : (x_4.toInt ≠ 0 → 0 ≤ x2.toInt ∧ x2.toInt ≤ 3) ∧ (x_4.toInt = 0 → x2.toInt < 0 ∨ 3 < x2.toInt) := p_4.2
    have g_5 := z_rng x2
    refine bz_ne (tgt := 18) hx hb rfl dX12_allowed_12 (by decide) (fun c_6 => ?_) (fun c_6 => ?_)
    · skip
      replace pp_4 := pp_4.1 c_6
      refine lv_sipush (v := 1290) hx hb dX12_allowed_18 (by decide) ?_
      refine lv_iload_n hx hb dX12_allowed_21 rfl (lv_at hl 1 rfl) ?_
      refine lv_imul hx hb dX12_allowed_22 ?_
      refine lv_topi (fun x_7 ex_7 => ?_)
      refine lv_istore (lv' := [(4, .int x_7), (0, .ref a0), (1, .int x1), (2, .int x2), (3, .int x3)]) hx hb dX12_allowed_23 hl (by decide) rfl (fun ls hl => ?_)
      refine lv_aload_n hx hb dX12_allowed_25 rfl (lv_at hl 1 rfl) ?_
      refine mg_0 C hs hP ha0 hk0 wf_X12_8 dX12_allowed_26 ?_
      have hf_8 := hO.r (j := 0) ha0 hk0 (rfl : zX 11 0 = some (40, 47730))
      refine lv_iload hx hb dX12_allowed_29 (lv_at hl 0 rfl) ?_
      refine lv_iconst (v := 5) hx hb dX12_allowed_31 (by decide) ?_
      refine lv_iadd hx hb dX12_allowed_32 ?_
      refine lv_topi (fun x_9 ex_9 => ?_)
      obtain ⟨f_7, l_7, u_7⟩ := z_mul ex_7 ti_1290 rfl
      try replace f_7 : x_7.toInt = 1290 * x1.toInt := by omega
      obtain ⟨f_9, l_9, u_9⟩ := z_add ex_9 rfl ti_5
      try replace f_9 : x_9.toInt = x_7.toInt + 5 := by omega
      have hbs_11 : zRow x_7.toInt := zRow.of (t := x1.toInt) (by omega) (by omega)
      have hbl_hbs_11 := hbs_11.lin
      have hi_hr_10 : x_9.toInt = x_7.toInt + (5) := by omega
      have hr_10 := z_cell (lo := 2) (hi := 8) hbs_11 hi_hr_10 (by decide) (by decide)
      have hin_12 : vp_in x_9 (zn K (zr K a0 0)) := vp_in_iff.mpr (by rw [(hf_8.2.2 (by decide))]; exact hr_10.in)
      refine mld_40 C hs hP hf_8.1 hf_8.2.1 hin_12 dX12_allowed_33 ?_
      have ep_13 : x_9.toNatClampNeg = (x_7.toInt + 5).toNat := z_pos (hi_hr_10.trans (by omega))
      rw [ep_13]
      refine lv_iconst (v := 1) hx hb dX12_allowed_34 (by decide) ?_
      refine bi_eq (tgt := 41) hx hb rfl ti_1 dX12_allowed_35 (by decide) (fun c_14 => ?_) (fun c_14 => ?_)
      · skip
        refine lv_aload_n hx hb dX12_allowed_41 rfl (lv_at hl 1 rfl) ?_
        refine lv_iload hx hb dX12_allowed_42 (lv_at hl 0 rfl) ?_
        refine lv_iload_n hx hb dX12_allowed_44 rfl (lv_at hl 3 rfl) ?_
        refine lv_iload_n hx hb dX12_allowed_45 rfl (lv_at hl 4 rfl) ?_
        refine lv_iconst (v := 0) hx hb dX12_allowed_46 (by decide) ?_
        have g_15 := z_rng x3
        have hq_16 : 0 ≤ x2.toInt ∧ x2.toInt ≤ 3 := by (try simp only [ti_0]); first | assumption | omega | (intros; omega)
        refine zcS (zrV (As := [.int x_7, .int x2, .int x3, .int 0]) (b := a0) (rest := []) C hs hP hS (c_X12_meets l D K hM f A hT a0 ha0 hk0 x_7 x2 x3 0 hbs_11 hq_16) m_X12_meets wm_X12_201 (zrecv hs hP ha0 (zF_11 hk0) rfl) ⟨by decide, by decide⟩ hl.1 (Nat.le_of_ble_eq_true rfl) dX12_allowed_47) (fun x_17 p_17 => ?_)
        have pp_17 : (x_17.toInt ≤ 0 → 0 ≤ x3.toInt ∧ x3.toInt ≤ 59 ∧ x3.toInt < (A 40 (x_7.toInt + x2.toInt + 22).toNat).toInt ∧ ((0 : Int32).toInt ≠ 0 → (A 40 (x_7.toInt + 9).toNat).toInt = x2.toInt)) := p_17
        try simp only [ti_0] at pp_17
        refine lv_istore (lv' := [(5, .int x_17), (4, .int x_7), (0, .ref a0), (1, .int x1), (2, .int x2), (3, .int x3)]) hx hb dX12_allowed_50 hl (by decide) rfl (fun ls hl => ?_)
        refine lv_iload hx hb dX12_allowed_52 (lv_at hl 0 rfl) ?_
        refine bz_le (tgt := 63) hx hb rfl dX12_allowed_54 (by decide) (fun c_18 => ?_) (fun c_18 => ?_)
        · skip
          refine lv_aload_n hx hb dX12_allowed_63 rfl (lv_at hl 2 rfl) ?_
          refine lv_iload hx hb dX12_allowed_64 (lv_at hl 1 rfl) ?_
          refine lv_iload_n hx hb dX12_allowed_66 rfl (lv_at hl 4 rfl) ?_
          have hq_19 : 0 ≤ x2.toInt ∧ x2.toInt ≤ 3 := by first | assumption | omega | (intros; omega)
          refine mcV (zrV (As := [.int x_7, .int x2]) (b := a0) (rest := []) C hs hP hS (c_X12_look l D K hM f A hT a0 ha0 hk0 x_7 x2 hbs_11 hq_19) m_X12_look wm_X12_205 (zrecv hs hP ha0 (zF_11 hk0) rfl) ⟨by decide, by decide⟩ hl.1 (Nat.le_of_ble_eq_true rfl) dX12_allowed_67) hS (fun f_20 A_20 H locs p_20 hP hS => ?_)
          obtain ⟨hT, hA_20, hF_20, pp_20⟩ := p_20
          have pp_20 : (f_20 16).toInt = (A 40 (x_7.toInt + 26).toNat).toInt := pp_20
          have FA := frA FA hA_20 (by decide)
          have FF := frF FF hF_20 (by decide)
          refine lv_aload_n hx hb dX12_allowed_70 rfl (lv_at hl 2 rfl) ?_
          refine lv_iload hx hb dX12_allowed_71 (lv_at hl 1 rfl) ?_
          refine lv_aload_n hx hb dX12_allowed_73 rfl (lv_at hl 2 rfl) ?_
          refine mg_13 C hs hP ha0 hk0 wf_X12_36 dX12_allowed_74 ?_
          have hf_21 := hO.r (j := 13) ha0 hk0 (rfl : zX 11 13 = some (53, 60))
          refine lv_iload_n hx hb dX12_allowed_77 rfl (lv_at hl 5 rfl) ?_
          have hin_22 : vp_in x3 (zn K (zr K a0 13)) := vp_in_iff.mpr (by rw [(hf_21.2.2 (by decide))]; refine ⟨?_, ?_⟩ <;> omega)
          refine mld_53 C hs hP hf_21.1 hf_21.2.1 hin_22 dX12_allowed_78 ?_
          have tv_23 := ra_53 hT (vp_in_iff.mp hin_22).1 (by have h7 := (vp_in_iff.mp hin_22).2; rw [(hf_21.2.2 (by decide))] at h7; exact h7)
          have g_24 := z_rng (A_20 53 x3.toNatClampNeg)
          have hq_25 : 0 ≤ (A_20 53 x3.toNatClampNeg).toInt ∧ (A_20 53 x3.toNatClampNeg).toInt ≤ 59 := by first | assumption | omega | (intros; omega)
          have ev_27 : f_20 11 = f 11 := by rw [hF_20 11 (by decide)]
          have hq_26 : (f_20 11).toInt ≤ 1990000000 := by rw [ev_27]; first | assumption | omega | (intros; omega)
          refine mcI (zrV (As := [.int x_7, .int (A_20 53 x3.toNatClampNeg)]) (b := a0) (rest := []) C hs hP hS (c_X12_allows l D K hM f_20 A_20 hT a0 ha0 hk0 x_7 (A_20 53 x3.toNatClampNeg) hbs_11 hq_25 hq_26) m_X12_allows wm_X12_208 (zrecv hs hP ha0 (zF_11 hk0) rfl) ⟨by decide, by decide⟩ hl.1 (Nat.le_of_ble_eq_true rfl) dX12_allowed_79) hS (fun x_28 f_28 A_28 H locs p_28 hP hS => ?_)
          obtain ⟨hT, hA_28, hF_28, pp_28⟩ := p_28
          have pp_28 : (f_20 11).toInt ≤ (f_28 11).toInt ∧ (f_28 11).toInt ≤ (f_20 11).toInt + 3 ∧ ((f_20 12).toInt ≠ 0 → (f_28 11).toInt = (f_20 11).toInt) := pp_28
          have ev_29 : f_20 11 = f 11 := by rw [hF_20 11 (by decide)]
          have ev_30 : f_20 12 = f 12 := by rw [hF_20 12 (by decide)]
          rw [ev_29, ev_30] at pp_28
          have FA := frA FA hA_28 (by decide)
          have FF := frF FF hF_28 (by decide)
          exact maI hQ hx hb hr hlk hP hS ⟨hT, FA, FF, (by (try dsimp only); (first | omega | (intro h9; omega) | (simp; done) | (refine ⟨?_, ?_⟩ <;> intros <;> first | trivial | omega) | (refine ⟨?_, ?_, ?_⟩ <;> intros <;> first | trivial | omega)))⟩ dX12_allowed_82
        · skip
          refine lv_bipush (v := (-10)) hx hb dX12_allowed_57 (by decide) ?_
          refine lv_iload hx hb dX12_allowed_59 (lv_at hl 0 rfl) ?_
          refine lv_isub hx hb dX12_allowed_61 ?_
          refine lv_topi (fun x_31 ex_31 => ?_)
          exact maI hQ hx hb hr hlk hP hS ⟨hT, FA, FF, (by (try dsimp only); (first | omega | (intro h9; omega) | (simp; done) | (refine ⟨?_, ?_⟩ <;> intros <;> first | trivial | omega) | (refine ⟨?_, ?_, ?_⟩ <;> intros <;> first | trivial | omega)))⟩ dX12_allowed_62
      · skip
        refine lv_bipush (v := (-4)) hx hb dX12_allowed_38 (by decide) ?_
        exact maI hQ hx hb hr hlk hP hS ⟨hT, FA, FF, (by (try dsimp only); (try simp only [ti_m4]); (first | omega | (intro h9; omega) | (simp; done) | (refine ⟨?_, ?_⟩ <;> intros <;> first | trivial | omega) | (refine ⟨?_, ?_, ?_⟩ <;> intros <;> first | trivial | omega)))⟩ dX12_allowed_40
    · skip
      replace pp_4 := pp_4.2 c_6
      refine lv_bipush (v := (-2)) hx hb dX12_allowed_15 (by decide) ?_
      exact maI hQ hx hb hr hlk hP hS ⟨hT, FA, FF, (by (try dsimp only); (try simp only [ti_m2]); (first | omega | (intro h9; omega) | (simp; done) | (refine ⟨?_, ?_⟩ <;> intros <;> first | trivial | omega) | (refine ⟨?_, ?_, ?_⟩ <;> intros <;> first | trivial | omega)))⟩ dX12_allowed_17
