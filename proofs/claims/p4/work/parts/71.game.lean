set_option maxHeartbeats 4000000 in
set_option maxRecDepth 100000 in
theorem c2_X12_isGame (l : Launch) (D : va_G) (K : zK) (hM : mK K) (f : Nat → Int32) (A : Nat → Nat → Int32) (hT : mT f A) (a0 : Nat) (ha0 : a0 ∈ zl K) (hk0 : zk K a0 = 11) (x1 : Int32) : Met l yX12_isGame (zc yX12_isGame cX12_isGame 2 (some .boolean)) (rmd 1) (va_Pc [.ref a0, .int x1] (zB D K (mV K f A))) (vp_Si (fun r => (r = 0 ∨ r = 1) ∧ (r.toInt ≠ 0 → isG (A 43) x1 ∧ 0 ≤ x1.toInt ∧ x1.toInt ≤ 5) ∧ (r.toInt = 0 → ¬ isG (A 43) x1))) 0 0 (fun _ => False) := by
  refine zin (by decide) (Nat.le_of_ble_eq_true rfl) ?_
  intro p e s m args below meth c ls Q hQ C hr hlk hP hs hl
  have C : CallFix p m c cX12_isGame 2 s args zw RX12 := C
  obtain ⟨hx, hb, hml, hown, hts⟩ := id C
  have hO := hM.1
  have hS : va_S (zA K) s.heap s.heap [] := va_S.rf
  have hl : lv_has ls 2 [(0, .ref a0), (1, .int x1)] := hl
  refine lv_iload_n hx hb dX12_isGame_0 rfl (lv_at hl 1 rfl) ?_
  refine lv_iconst (v := 0) hx hb dX12_isGame_1 (by decide) ?_
  refine lv_iconst (v := 5) hx hb dX12_isGame_2 (by decide) ?_
  refine zcS (zrS (As := [.int x1, .int 0, .int 5]) (rest := []) C hs hP hS (c_X12_in l D K hM f A hT x1 0 5) m_X12_in wm_X12_91 ⟨by decide, by decide⟩ hl.1 (Nat.le_of_ble_eq_true rfl) dX12_isGame_3) (fun x_1 p_1 => ?_)
  have pp_1 : (x_1.toInt ≠ 0 → (0 : Int32).toInt ≤ x1.toInt ∧ x1.toInt ≤ (5 : Int32).toInt) ∧ (x_1.toInt = 0 → x1.toInt < (0 : Int32).toInt ∨ (5 : Int32).toInt < x1.toInt) := p_1.2
  try simp only [ti_0, ti_5] at pp_1
  have g_2 := z_rng x1
  refine bz_eq (tgt := 23) hx hb rfl dX12_isGame_6 (by decide) (fun c_3 => ?_) (fun c_3 => ?_)
  · skip
    replace pp_1 := pp_1.2 c_3
    refine lv_iconst (v := 0) hx hb dX12_isGame_23 (by decide) ?_
    exact zaSz hQ hx hb hr hlk (Or.inl rfl) ⟨(Or.inl rfl), ⟨fun h9 => absurd ti_0 h9, fun _ h8 => by unfold isG at h8; omega⟩⟩ dX12_isGame_24
  · skip
    replace pp_1 := pp_1.1 c_3
    refine lv_aload_n hx hb dX12_isGame_9 rfl (lv_at hl 0 rfl) ?_
    refine mg_3 C hs hP ha0 hk0 wf_X12_21 dX12_isGame_10 ?_
    have hf_4 := hO.r (j := 3) ha0 hk0 (rfl : zX 11 3 = some (43, 6))
    refine lv_iload_n hx hb dX12_isGame_13 rfl (lv_at hl 1 rfl) ?_
    have hin_5 : vp_in x1 (zn K (zr K a0 3)) := vp_in_iff.mpr (by rw [(hf_4.2.2 (by decide))]; refine ⟨?_, ?_⟩ <;> omega)
    refine mld_43 C hs hP hf_4.1 hf_4.2.1 hin_5 dX12_isGame_14 ?_
    refine lv_iconst (v := (-1)) hx hb dX12_isGame_15 (by decide) ?_
    refine bi_eq (tgt := 23) hx hb rfl ti_m1 dX12_isGame_16 (by decide) (fun c_6 => ?_) (fun c_6 => ?_)
    · skip
      refine lv_iconst (v := 0) hx hb dX12_isGame_23 (by decide) ?_
      exact zaSz hQ hx hb hr hlk (Or.inl rfl) ⟨(Or.inl rfl), ⟨fun h9 => absurd ti_0 h9, fun _ h8 => by unfold isG at h8; omega⟩⟩ dX12_isGame_24
    · skip
      refine lv_iconst (v := 1) hx hb dX12_isGame_19 (by decide) ?_
      refine lv_goto (tgt := 24) hx hb dX12_isGame_20 (by decide) ?_
      exact zaSz hQ hx hb hr hlk (Or.inr rfl) ⟨(Or.inr rfl), ⟨fun _ => ⟨⟨by omega, by omega, by omega⟩, by omega, by omega⟩, fun h9 => absurd h9 (by rw [ti_1]; decide)⟩⟩ dX12_isGame_24
set_option maxHeartbeats 4000000 in
set_option maxRecDepth 100000 in
theorem c_X12_game (l : Launch) (D : va_G) (K : zK) (hM : mK K) (f : Nat → Int32) (A : Nat → Nat → Int32) (hT : mT f A) (a0 : Nat) (ha0 : a0 ∈ zl K) (hk0 : zk K a0 = 11) (x1 : Int32) (x2 : Int32) (x3 : Int32) (x4 : Int32) : Met l yX12_game (zc yX12_game cX12_game 7 (some .int)) (rmd 2) (va_Pc [.ref a0, .int x1, .int x2, .int x3, .int x4] (zB D K (mV K f A))) (mQi D K (fun r f' A' => mT f' A' ∧ (∀ k, k ∉ ([43, 44, 45] : List Nat) → A' k = A k) ∧ (∀ k, k ∉ ([] : List Nat) → f' k = f k) ∧ gaR (A 43) x1 x2 x3 x4 r.toInt ∧ (r.toInt = 1 → A' 43 = upd (A 43) x1.toNatClampNeg x2) ∧ (r.toInt ≠ 1 → A' 43 = A 43))) 0 0 (zA K) := by
  refine zin (by decide) (Nat.le_of_ble_eq_true rfl) ?_
  intro p e s m args below meth c ls Q hQ C hr hlk hP hs hl
  have C : CallFix p m c cX12_game 7 s args zw RX12 := C
  obtain ⟨hx, hb, hml, hown, hts⟩ := id C
  have hO := hM.1
  have hS : va_S (zA K) s.heap s.heap [] := va_S.rf
  have FA : ∀ k, k ∉ ([43, 44, 45] : List Nat) → A k = A k := fun _ _ => rfl
  have FF : ∀ k, k ∉ ([] : List Nat) → f k = f k := fun _ _ => rfl
  have hl : lv_has ls 7 [(0, .ref a0), (1, .int x1), (2, .int x2), (3, .int x3), (4, .int x4)] := hl
  refine lv_iload_n hx hb dX12_game_0 rfl (lv_at hl 1 rfl) ?_
  refine lv_iconst (v := 0) hx hb dX12_game_1 (by decide) ?_
  refine lv_iconst (v := 5) hx hb dX12_game_2 (by decide) ?_
  refine zcS (zrS (As := [.int x1, .int 0, .int 5]) (rest := []) C hs hP hS (c_X12_in l D K hM f A hT x1 0 5) m_X12_in wm_X12_91 ⟨by decide, by decide⟩ hl.1 (Nat.le_of_ble_eq_true rfl) dX12_game_3) (fun x_1 p_1 => ?_)
  have pp_1 : (x_1.toInt ≠ 0 → (0 : Int32).toInt ≤ x1.toInt ∧ x1.toInt ≤ (5 : Int32).toInt) ∧ (x_1.toInt = 0 → x1.toInt < (0 : Int32).toInt ∨ (5 : Int32).toInt < x1.toInt) := p_1.2
  try simp only [ti_0, ti_5] at pp_1
  have g_2 := z_rng x1
  refine bz_eq (tgt := 31) hx hb rfl dX12_game_6 (by decide) (fun c_3 => ?_) (fun c_3 => ?_)
  · skip
    replace pp_1 := pp_1.2 c_3
    refine lv_bipush (v := (-2)) hx hb dX12_game_31 (by decide) ?_
    exact maI hQ hx hb hr hlk hP hS ⟨hT, FA, FF, ⟨Or.inl ⟨by first | exact Or.inl (by omega) | exact Or.inr ⟨by omega, Or.inl (by assumption)⟩ | exact Or.inr ⟨by omega, Or.inr (by assumption)⟩, ti_m2⟩, fun h9 => absurd h9 (by rw [ti_m2]; decide), fun _ => rfl⟩⟩ dX12_game_33
  · skip
    replace pp_1 := pp_1.1 c_3
    refine lv_iload_n hx hb dX12_game_9 rfl (lv_at hl 2 rfl) ?_
    refine lv_iconst (v := 4) hx hb dX12_game_10 (by decide) ?_
    refine bi_ne (tgt := 34) hx hb rfl ti_4 dX12_game_11 (by decide) (fun c_4 => ?_) (fun c_4 => ?_)
    · skip
      refine lv_iload_n hx hb dX12_game_34 rfl (lv_at hl 2 rfl) ?_
      refine lv_iconst (v := 0) hx hb dX12_game_35 (by decide) ?_
      refine lv_iconst (v := 4) hx hb dX12_game_36 (by decide) ?_
      refine zcS (zrS (As := [.int x2, .int 0, .int 4]) (rest := []) C hs hP hS (c_X12_in l D K hM f A hT x2 0 4) m_X12_in wm_X12_91 ⟨by decide, by decide⟩ hl.1 (Nat.le_of_ble_eq_true rfl) dX12_game_37) (fun x_5 p_5 => ?_)
      have pp_5 : (x_5.toInt ≠ 0 → (0 : Int32).toInt ≤ x2.toInt ∧ x2.toInt ≤ (4 : Int32).toInt) ∧ (x_5.toInt = 0 → x2.toInt < (0 : Int32).toInt ∨ (4 : Int32).toInt < x2.toInt) := p_5.2
      try simp only [ti_0, ti_4] at pp_5
      have g_6 := z_rng x2
      refine bz_ne (tgt := 46) hx hb rfl dX12_game_40 (by decide) (fun c_7 => ?_) (fun c_7 => ?_)
      · skip
        replace pp_5 := pp_5.1 c_7
        refine lv_iload_n hx hb dX12_game_46 rfl (lv_at hl 2 rfl) ?_
        refine lv_iconst (v := 4) hx hb dX12_game_47 (by decide) ?_
        refine bi_ne (tgt := 75) hx hb rfl ti_4 dX12_game_48 (by decide) (fun c_8 => ?_) (fun c_8 => ?_)
        · skip
          refine lv_iload_n hx hb dX12_game_75 rfl (lv_at hl 2 rfl) ?_
          refine lv_iconst (v := 4) hx hb dX12_game_76 (by decide) ?_
          refine bi_ne (tgt := 89) hx hb rfl ti_4 dX12_game_77 (by decide) (fun c_9 => ?_) (fun c_9 => ?_)
          · skip
            refine lv_iload_n hx hb dX12_game_89 rfl (lv_at hl 2 rfl) ?_
            refine lv_istore (lv' := [(5, .int x2), (0, .ref a0), (1, .int x1), (2, .int x2), (3, .int x3), (4, .int x4)]) hx hb dX12_game_90 hl (by decide) rfl (fun ls hl => ?_)
            refine lv_iload_n hx hb dX12_game_92 rfl (lv_at hl 3 rfl) ?_
            refine lv_iconst (v := 4) hx hb dX12_game_93 (by decide) ?_
            refine bi_ne (tgt := 107) hx hb rfl ti_4 dX12_game_94 (by decide) (fun c_10 => ?_) (fun c_10 => ?_)
            · skip
              refine lv_iload_n hx hb dX12_game_107 rfl (lv_at hl 3 rfl) ?_
              refine lv_istore (lv' := [(6, .int x2), (5, .int x2), (0, .ref a0), (1, .int x1), (2, .int x2), (3, .int x3), (4, .int x4)]) hx hb dX12_game_108 hl (by decide) rfl (fun ls hl => ?_)
              refine lv_aload_n hx hb dX12_game_110 rfl (lv_at hl 2 rfl) ?_
              refine mg_3 C hs hP ha0 hk0 wf_X12_21 dX12_game_111 ?_
              have hf_11 := hO.r (j := 3) ha0 hk0 (rfl : zX 11 3 = some (43, 6))
              refine lv_iload_n hx hb dX12_game_114 rfl (lv_at hl 3 rfl) ?_
              refine lv_iload_n hx hb dX12_game_115 rfl (lv_at hl 4 rfl) ?_
              have hin_12 : vp_in x1 (zn K (zr K a0 3)) := vp_in_iff.mpr (by rw [(hf_11.2.2 (by decide))]; refine ⟨?_, ?_⟩ <;> omega)
              refine mst_43 C hM hs hP hS hf_11.1 hT hf_11.2.1 hin_12 trivial dX12_game_116 (fun A_13 H locs hE_13 hT hP hS => ?_)
              have FA := frA FA (frAu hE_13) (by decide)
              refine lv_aload_n hx hb dX12_game_117 rfl (lv_at hl 2 rfl) ?_
              refine mg_4 C hs hP ha0 hk0 wf_X12_24 dX12_game_118 ?_
              have hf_14 := hO.r (j := 4) ha0 hk0 (rfl : zX 11 4 = some (44, 6))
              refine lv_iload_n hx hb dX12_game_121 rfl (lv_at hl 3 rfl) ?_
              refine lv_iload hx hb dX12_game_122 (lv_at hl 1 rfl) ?_
              have hin_15 : vp_in x1 (zn K (zr K a0 4)) := vp_in_iff.mpr (by rw [(hf_14.2.2 (by decide))]; refine ⟨?_, ?_⟩ <;> omega)
              refine mst_44 C hM hs hP hS hf_14.1 hT hf_14.2.1 hin_15 trivial dX12_game_124 (fun A_16 H locs hE_16 hT hP hS => ?_)
              have FA := frA FA (frAu hE_16) (by decide)
              refine lv_aload_n hx hb dX12_game_125 rfl (lv_at hl 2 rfl) ?_
              refine mg_5 C hs hP ha0 hk0 wf_X12_27 dX12_game_126 ?_
              have hf_17 := hO.r (j := 5) ha0 hk0 (rfl : zX 11 5 = some (45, 6))
              refine lv_iload_n hx hb dX12_game_129 rfl (lv_at hl 3 rfl) ?_
              refine lv_iload hx hb dX12_game_130 (lv_at hl 0 rfl) ?_
              have hin_18 : vp_in x1 (zn K (zr K a0 5)) := vp_in_iff.mpr (by rw [(hf_17.2.2 (by decide))]; refine ⟨?_, ?_⟩ <;> omega)
              refine mst_45 C hM hs hP hS hf_17.1 hT hf_17.2.1 hin_18 trivial dX12_game_132 (fun A_19 H locs hE_19 hT hP hS => ?_)
              have FA := frA FA (frAu hE_19) (by decide)
              refine lv_iconst (v := 1) hx hb dX12_game_133 (by decide) ?_
              have eu_20 : A_19 43 = upd (A 43) (x1.toNatClampNeg) x2 := by rw [hE_19, va_up_ne _ _ (show 43 ≠ 45 by decide), hE_16, va_up_ne _ _ (show 43 ≠ 44 by decide), hE_13, va_up_self]
              exact maI hQ hx hb hr hlk hP hS ⟨hT, FA, FF, ⟨Or.inr (Or.inr (Or.inr ⟨(fun h => by rcases h with h | ⟨h1, h2 | h2⟩ <;> first | omega | contradiction | (exact absurd (And.left (by assumption)) h2)), (fun h => by unfold gC2 at h; omega), (fun h => by rcases h with ⟨h1, h2 | h2⟩ <;> omega), ti_1⟩)), fun _ => eu_20, fun h9 => absurd ti_1 h9⟩⟩ dX12_game_134
            · skip
              refine lv_aload_n hx hb dX12_game_97 rfl (lv_at hl 1 rfl) ?_
              refine mg_3 C hs hP ha0 hk0 wf_X12_21 dX12_game_98 ?_
              have hf_21 := hO.r (j := 3) ha0 hk0 (rfl : zX 11 3 = some (43, 6))
              refine lv_iload hx hb dX12_game_101 (lv_at hl 5 rfl) ?_
              have g_23 := z_rng x4
              have hin_22 : vp_in x4 (zn K (zr K a0 3)) := vp_in_iff.mpr (by rw [(hf_21.2.2 (by decide))]; refine ⟨?_, ?_⟩ <;> omega)
              refine mld_43 C hs hP hf_21.1 hf_21.2.1 hin_22 dX12_game_103 ?_
              refine lv_goto (tgt := 108) hx hb dX12_game_104 (by decide) ?_
              refine lv_istore (lv' := [(6, .int (A 43 x4.toNatClampNeg)), (5, .int x2), (0, .ref a0), (1, .int x1), (2, .int x2), (3, .int x3), (4, .int x4)]) hx hb dX12_game_108 hl (by decide) rfl (fun ls hl => ?_)
              refine lv_aload_n hx hb dX12_game_110 rfl (lv_at hl 2 rfl) ?_
              refine mg_3 C hs hP ha0 hk0 wf_X12_21 dX12_game_111 ?_
              refine lv_iload_n hx hb dX12_game_114 rfl (lv_at hl 3 rfl) ?_
              refine lv_iload_n hx hb dX12_game_115 rfl (lv_at hl 4 rfl) ?_
              have hin_24 : vp_in x1 (zn K (zr K a0 3)) := vp_in_iff.mpr (by rw [(hf_21.2.2 (by decide))]; refine ⟨?_, ?_⟩ <;> omega)
              refine mst_43 C hM hs hP hS hf_21.1 hT hf_21.2.1 hin_24 trivial dX12_game_116 (fun A_25 H locs hE_25 hT hP hS => ?_)
              have FA := frA FA (frAu hE_25) (by decide)
              refine lv_aload_n hx hb dX12_game_117 rfl (lv_at hl 2 rfl) ?_
              refine mg_4 C hs hP ha0 hk0 wf_X12_24 dX12_game_118 ?_
              have hf_26 := hO.r (j := 4) ha0 hk0 (rfl : zX 11 4 = some (44, 6))
              refine lv_iload_n hx hb dX12_game_121 rfl (lv_at hl 3 rfl) ?_
              refine lv_iload hx hb dX12_game_122 (lv_at hl 1 rfl) ?_
              have hin_27 : vp_in x1 (zn K (zr K a0 4)) := vp_in_iff.mpr (by rw [(hf_26.2.2 (by decide))]; refine ⟨?_, ?_⟩ <;> omega)
              refine mst_44 C hM hs hP hS hf_26.1 hT hf_26.2.1 hin_27 trivial dX12_game_124 (fun A_28 H locs hE_28 hT hP hS => ?_)
              have FA := frA FA (frAu hE_28) (by decide)
              refine lv_aload_n hx hb dX12_game_125 rfl (lv_at hl 2 rfl) ?_
              refine mg_5 C hs hP ha0 hk0 wf_X12_27 dX12_game_126 ?_
              have hf_29 := hO.r (j := 5) ha0 hk0 (rfl : zX 11 5 = some (45, 6))
              refine lv_iload_n hx hb dX12_game_129 rfl (lv_at hl 3 rfl) ?_
              refine lv_iload hx hb dX12_game_130 (lv_at hl 0 rfl) ?_
              have hin_30 : vp_in x1 (zn K (zr K a0 5)) := vp_in_iff.mpr (by rw [(hf_29.2.2 (by decide))]; refine ⟨?_, ?_⟩ <;> omega)
              refine mst_45 C hM hs hP hS hf_29.1 hT hf_29.2.1 hin_30 trivial dX12_game_132 (fun A_31 H locs hE_31 hT hP hS => ?_)
              have FA := frA FA (frAu hE_31) (by decide)
              refine lv_iconst (v := 1) hx hb dX12_game_133 (by decide) ?_
              have eu_32 : A_31 43 = upd (A 43) (x1.toNatClampNeg) x2 := by rw [hE_31, va_up_ne _ _ (show 43 ≠ 45 by decide), hE_28, va_up_ne _ _ (show 43 ≠ 44 by decide), hE_25, va_up_self]
              exact maI hQ hx hb hr hlk hP hS ⟨hT, FA, FF, ⟨Or.inr (Or.inr (Or.inr ⟨(fun h => by rcases h with h | ⟨h1, h2 | h2⟩ <;> first | omega | contradiction | (exact absurd (And.left (by assumption)) h2)), (fun h => by unfold gC2 at h; omega), (fun h => by rcases h with ⟨h1, h2 | h2⟩ <;> omega), ti_1⟩)), fun _ => eu_32, fun h9 => absurd ti_1 h9⟩⟩ dX12_game_134
          · skip
            refine lv_aload_n hx hb dX12_game_80 rfl (lv_at hl 0 rfl) ?_
            refine mg_3 C hs hP ha0 hk0 wf_X12_21 dX12_game_81 ?_
            have hf_33 := hO.r (j := 3) ha0 hk0 (rfl : zX 11 3 = some (43, 6))
            refine lv_iload_n hx hb dX12_game_84 rfl (lv_at hl 3 rfl) ?_
            have g_35 := z_rng x3
            have hin_34 : vp_in x3 (zn K (zr K a0 3)) := vp_in_iff.mpr (by rw [(hf_33.2.2 (by decide))]; refine ⟨?_, ?_⟩ <;> omega)
            refine mld_43 C hs hP hf_33.1 hf_33.2.1 hin_34 dX12_game_85 ?_
            refine lv_goto (tgt := 90) hx hb dX12_game_86 (by decide) ?_
            refine lv_istore (lv' := [(5, .int (A 43 x3.toNatClampNeg)), (0, .ref a0), (1, .int x1), (2, .int x2), (3, .int x3), (4, .int x4)]) hx hb dX12_game_90 hl (by decide) rfl (fun ls hl => ?_)
            refine lv_iload_n hx hb dX12_game_92 rfl (lv_at hl 3 rfl) ?_
            refine lv_iconst (v := 4) hx hb dX12_game_93 (by decide) ?_
            refine bi_ne (tgt := 107) hx hb rfl ti_4 dX12_game_94 (by decide) (fun c_36 => ?_) (fun c_36 => ?_)
            · skip
              refine lv_iload_n hx hb dX12_game_107 rfl (lv_at hl 3 rfl) ?_
              refine lv_istore (lv' := [(6, .int x2), (5, .int (A 43 x3.toNatClampNeg)), (0, .ref a0), (1, .int x1), (2, .int x2), (3, .int x3), (4, .int x4)]) hx hb dX12_game_108 hl (by decide) rfl (fun ls hl => ?_)
              refine lv_aload_n hx hb dX12_game_110 rfl (lv_at hl 2 rfl) ?_
              refine mg_3 C hs hP ha0 hk0 wf_X12_21 dX12_game_111 ?_
              refine lv_iload_n hx hb dX12_game_114 rfl (lv_at hl 3 rfl) ?_
              refine lv_iload_n hx hb dX12_game_115 rfl (lv_at hl 4 rfl) ?_
              have hin_37 : vp_in x1 (zn K (zr K a0 3)) := vp_in_iff.mpr (by rw [(hf_33.2.2 (by decide))]; refine ⟨?_, ?_⟩ <;> omega)
              refine mst_43 C hM hs hP hS hf_33.1 hT hf_33.2.1 hin_37 trivial dX12_game_116 (fun A_38 H locs hE_38 hT hP hS => ?_)
              have FA := frA FA (frAu hE_38) (by decide)
              refine lv_aload_n hx hb dX12_game_117 rfl (lv_at hl 2 rfl) ?_
              refine mg_4 C hs hP ha0 hk0 wf_X12_24 dX12_game_118 ?_
              have hf_39 := hO.r (j := 4) ha0 hk0 (rfl : zX 11 4 = some (44, 6))
              refine lv_iload_n hx hb dX12_game_121 rfl (lv_at hl 3 rfl) ?_
              refine lv_iload hx hb dX12_game_122 (lv_at hl 1 rfl) ?_
              have hin_40 : vp_in x1 (zn K (zr K a0 4)) := vp_in_iff.mpr (by rw [(hf_39.2.2 (by decide))]; refine ⟨?_, ?_⟩ <;> omega)
              refine mst_44 C hM hs hP hS hf_39.1 hT hf_39.2.1 hin_40 trivial dX12_game_124 (fun A_41 H locs hE_41 hT hP hS => ?_)
              have FA := frA FA (frAu hE_41) (by decide)
              refine lv_aload_n hx hb dX12_game_125 rfl (lv_at hl 2 rfl) ?_
              refine mg_5 C hs hP ha0 hk0 wf_X12_27 dX12_game_126 ?_
              have hf_42 := hO.r (j := 5) ha0 hk0 (rfl : zX 11 5 = some (45, 6))
              refine lv_iload_n hx hb dX12_game_129 rfl (lv_at hl 3 rfl) ?_
              refine lv_iload hx hb dX12_game_130 (lv_at hl 0 rfl) ?_
              have hin_43 : vp_in x1 (zn K (zr K a0 5)) := vp_in_iff.mpr (by rw [(hf_42.2.2 (by decide))]; refine ⟨?_, ?_⟩ <;> omega)
              refine mst_45 C hM hs hP hS hf_42.1 hT hf_42.2.1 hin_43 trivial dX12_game_132 (fun A_44 H locs hE_44 hT hP hS => ?_)
              have FA := frA FA (frAu hE_44) (by decide)
              refine lv_iconst (v := 1) hx hb dX12_game_133 (by decide) ?_
              have eu_45 : A_44 43 = upd (A 43) (x1.toNatClampNeg) x2 := by rw [hE_44, va_up_ne _ _ (show 43 ≠ 45 by decide), hE_41, va_up_ne _ _ (show 43 ≠ 44 by decide), hE_38, va_up_self]
              exact maI hQ hx hb hr hlk hP hS ⟨hT, FA, FF, ⟨Or.inr (Or.inr (Or.inr ⟨(fun h => by rcases h with h | ⟨h1, h2 | h2⟩ <;> first | omega | contradiction | (exact absurd (And.left (by assumption)) h2)), (fun h => by unfold gC2 at h; omega), (fun h => by rcases h with ⟨h1, h2 | h2⟩ <;> omega), ti_1⟩)), fun _ => eu_45, fun h9 => absurd ti_1 h9⟩⟩ dX12_game_134
            · skip
              refine lv_aload_n hx hb dX12_game_97 rfl (lv_at hl 1 rfl) ?_
              refine mg_3 C hs hP ha0 hk0 wf_X12_21 dX12_game_98 ?_
              refine lv_iload hx hb dX12_game_101 (lv_at hl 5 rfl) ?_
              have g_47 := z_rng x4
              have hin_46 : vp_in x4 (zn K (zr K a0 3)) := vp_in_iff.mpr (by rw [(hf_33.2.2 (by decide))]; refine ⟨?_, ?_⟩ <;> omega)
              refine mld_43 C hs hP hf_33.1 hf_33.2.1 hin_46 dX12_game_103 ?_
              refine lv_goto (tgt := 108) hx hb dX12_game_104 (by decide) ?_
              refine lv_istore (lv' := [(6, .int (A 43 x4.toNatClampNeg)), (5, .int (A 43 x3.toNatClampNeg)), (0, .ref a0), (1, .int x1), (2, .int x2), (3, .int x3), (4, .int x4)]) hx hb dX12_game_108 hl (by decide) rfl (fun ls hl => ?_)
              refine lv_aload_n hx hb dX12_game_110 rfl (lv_at hl 2 rfl) ?_
              refine mg_3 C hs hP ha0 hk0 wf_X12_21 dX12_game_111 ?_
              refine lv_iload_n hx hb dX12_game_114 rfl (lv_at hl 3 rfl) ?_
              refine lv_iload_n hx hb dX12_game_115 rfl (lv_at hl 4 rfl) ?_
              have hin_48 : vp_in x1 (zn K (zr K a0 3)) := vp_in_iff.mpr (by rw [(hf_33.2.2 (by decide))]; refine ⟨?_, ?_⟩ <;> omega)
              refine mst_43 C hM hs hP hS hf_33.1 hT hf_33.2.1 hin_48 trivial dX12_game_116 (fun A_49 H locs hE_49 hT hP hS => ?_)
              have FA := frA FA (frAu hE_49) (by decide)
              refine lv_aload_n hx hb dX12_game_117 rfl (lv_at hl 2 rfl) ?_
              refine mg_4 C hs hP ha0 hk0 wf_X12_24 dX12_game_118 ?_
              have hf_50 := hO.r (j := 4) ha0 hk0 (rfl : zX 11 4 = some (44, 6))
              refine lv_iload_n hx hb dX12_game_121 rfl (lv_at hl 3 rfl) ?_
              refine lv_iload hx hb dX12_game_122 (lv_at hl 1 rfl) ?_
              have hin_51 : vp_in x1 (zn K (zr K a0 4)) := vp_in_iff.mpr (by rw [(hf_50.2.2 (by decide))]; refine ⟨?_, ?_⟩ <;> omega)
              refine mst_44 C hM hs hP hS hf_50.1 hT hf_50.2.1 hin_51 trivial dX12_game_124 (fun A_52 H locs hE_52 hT hP hS => ?_)
              have FA := frA FA (frAu hE_52) (by decide)
              refine lv_aload_n hx hb dX12_game_125 rfl (lv_at hl 2 rfl) ?_
              refine mg_5 C hs hP ha0 hk0 wf_X12_27 dX12_game_126 ?_
              have hf_53 := hO.r (j := 5) ha0 hk0 (rfl : zX 11 5 = some (45, 6))
              refine lv_iload_n hx hb dX12_game_129 rfl (lv_at hl 3 rfl) ?_
              refine lv_iload hx hb dX12_game_130 (lv_at hl 0 rfl) ?_
              have hin_54 : vp_in x1 (zn K (zr K a0 5)) := vp_in_iff.mpr (by rw [(hf_53.2.2 (by decide))]; refine ⟨?_, ?_⟩ <;> omega)
              refine mst_45 C hM hs hP hS hf_53.1 hT hf_53.2.1 hin_54 trivial dX12_game_132 (fun A_55 H locs hE_55 hT hP hS => ?_)
              have FA := frA FA (frAu hE_55) (by decide)
              refine lv_iconst (v := 1) hx hb dX12_game_133 (by decide) ?_
              have eu_56 : A_55 43 = upd (A 43) (x1.toNatClampNeg) x2 := by rw [hE_55, va_up_ne _ _ (show 43 ≠ 45 by decide), hE_52, va_up_ne _ _ (show 43 ≠ 44 by decide), hE_49, va_up_self]
              exact maI hQ hx hb hr hlk hP hS ⟨hT, FA, FF, ⟨Or.inr (Or.inr (Or.inr ⟨(fun h => by rcases h with h | ⟨h1, h2 | h2⟩ <;> first | omega | contradiction | (exact absurd (And.left (by assumption)) h2)), (fun h => by unfold gC2 at h; omega), (fun h => by rcases h with ⟨h1, h2 | h2⟩ <;> omega), ti_1⟩)), fun _ => eu_56, fun h9 => absurd ti_1 h9⟩⟩ dX12_game_134
        · skip
          refine lv_aload_n hx hb dX12_game_51 rfl (lv_at hl 0 rfl) ?_
          refine mg_3 C hs hP ha0 hk0 wf_X12_21 dX12_game_52 ?_
          have hf_57 := hO.r (j := 3) ha0 hk0 (rfl : zX 11 3 = some (43, 6))
          refine lv_iload_n hx hb dX12_game_55 rfl (lv_at hl 3 rfl) ?_
          have g_59 := z_rng x3
          have hin_58 : vp_in x3 (zn K (zr K a0 3)) := vp_in_iff.mpr (by rw [(hf_57.2.2 (by decide))]; refine ⟨?_, ?_⟩ <;> omega)
          refine mld_43 C hs hP hf_57.1 hf_57.2.1 hin_58 dX12_game_56 ?_
          refine lv_iconst (v := 4) hx hb dX12_game_57 (by decide) ?_
          refine bi_eq (tgt := 72) hx hb rfl ti_4 dX12_game_58 (by decide) (fun c_60 => ?_) (fun c_60 => ?_)
          · skip
            refine lv_bipush (v := (-4)) hx hb dX12_game_72 (by decide) ?_
            exact maI hQ hx hb hr hlk hP hS ⟨hT, FA, FF, ⟨Or.inr (Or.inr (Or.inl ⟨(fun h => by rcases h with h | ⟨h1, h2 | h2⟩ <;> first | omega | contradiction | (exact absurd (And.left (by assumption)) h2)), (fun h => by unfold gC2 at h; omega), by first | exact ⟨by omega, Or.inl (by omega)⟩ | exact ⟨by omega, Or.inr (by omega)⟩, ti_m4⟩)), fun h9 => absurd h9 (by rw [ti_m4]; decide), fun _ => rfl⟩⟩ dX12_game_74
          · skip
            refine lv_aload_n hx hb dX12_game_61 rfl (lv_at hl 0 rfl) ?_
            refine mg_3 C hs hP ha0 hk0 wf_X12_21 dX12_game_62 ?_
            refine lv_iload hx hb dX12_game_65 (lv_at hl 4 rfl) ?_
            have g_62 := z_rng x4
            have hin_61 : vp_in x4 (zn K (zr K a0 3)) := vp_in_iff.mpr (by rw [(hf_57.2.2 (by decide))]; refine ⟨?_, ?_⟩ <;> omega)
            refine mld_43 C hs hP hf_57.1 hf_57.2.1 hin_61 dX12_game_67 ?_
            refine lv_iconst (v := 4) hx hb dX12_game_68 (by decide) ?_
            refine bi_ne (tgt := 75) hx hb rfl ti_4 dX12_game_69 (by decide) (fun c_63 => ?_) (fun c_63 => ?_)
            · skip
              refine lv_iload_n hx hb dX12_game_75 rfl (lv_at hl 2 rfl) ?_
              refine lv_iconst (v := 4) hx hb dX12_game_76 (by decide) ?_
              refine bi_ne (tgt := 89) hx hb rfl ti_4 dX12_game_77 (by decide) (fun c_64 => ?_) (fun c_64 => ?_)
              · skip
                refine lv_iload_n hx hb dX12_game_89 rfl (lv_at hl 2 rfl) ?_
                refine lv_istore (lv' := [(5, .int x2), (0, .ref a0), (1, .int x1), (2, .int x2), (3, .int x3), (4, .int x4)]) hx hb dX12_game_90 hl (by decide) rfl (fun ls hl => ?_)
                refine lv_iload_n hx hb dX12_game_92 rfl (lv_at hl 3 rfl) ?_
                refine lv_iconst (v := 4) hx hb dX12_game_93 (by decide) ?_
                refine bi_ne (tgt := 107) hx hb rfl ti_4 dX12_game_94 (by decide) (fun c_65 => ?_) (fun c_65 => ?_)
                · skip
                  refine lv_iload_n hx hb dX12_game_107 rfl (lv_at hl 3 rfl) ?_
                  refine lv_istore (lv' := [(6, .int x2), (5, .int x2), (0, .ref a0), (1, .int x1), (2, .int x2), (3, .int x3), (4, .int x4)]) hx hb dX12_game_108 hl (by decide) rfl (fun ls hl => ?_)
                  refine lv_aload_n hx hb dX12_game_110 rfl (lv_at hl 2 rfl) ?_
                  refine mg_3 C hs hP ha0 hk0 wf_X12_21 dX12_game_111 ?_
                  refine lv_iload_n hx hb dX12_game_114 rfl (lv_at hl 3 rfl) ?_
                  refine lv_iload_n hx hb dX12_game_115 rfl (lv_at hl 4 rfl) ?_
                  have hin_66 : vp_in x1 (zn K (zr K a0 3)) := vp_in_iff.mpr (by rw [(hf_57.2.2 (by decide))]; refine ⟨?_, ?_⟩ <;> omega)
                  refine mst_43 C hM hs hP hS hf_57.1 hT hf_57.2.1 hin_66 trivial dX12_game_116 (fun A_67 H locs hE_67 hT hP hS => ?_)
                  have FA := frA FA (frAu hE_67) (by decide)
                  refine lv_aload_n hx hb dX12_game_117 rfl (lv_at hl 2 rfl) ?_
                  refine mg_4 C hs hP ha0 hk0 wf_X12_24 dX12_game_118 ?_
                  have hf_68 := hO.r (j := 4) ha0 hk0 (rfl : zX 11 4 = some (44, 6))
                  refine lv_iload_n hx hb dX12_game_121 rfl (lv_at hl 3 rfl) ?_
                  refine lv_iload hx hb dX12_game_122 (lv_at hl 1 rfl) ?_
                  have hin_69 : vp_in x1 (zn K (zr K a0 4)) := vp_in_iff.mpr (by rw [(hf_68.2.2 (by decide))]; refine ⟨?_, ?_⟩ <;> omega)
                  refine mst_44 C hM hs hP hS hf_68.1 hT hf_68.2.1 hin_69 trivial dX12_game_124 (fun A_70 H locs hE_70 hT hP hS => ?_)
                  have FA := frA FA (frAu hE_70) (by decide)
                  refine lv_aload_n hx hb dX12_game_125 rfl (lv_at hl 2 rfl) ?_
                  refine mg_5 C hs hP ha0 hk0 wf_X12_27 dX12_game_126 ?_
                  have hf_71 := hO.r (j := 5) ha0 hk0 (rfl : zX 11 5 = some (45, 6))
                  refine lv_iload_n hx hb dX12_game_129 rfl (lv_at hl 3 rfl) ?_
                  refine lv_iload hx hb dX12_game_130 (lv_at hl 0 rfl) ?_
                  have hin_72 : vp_in x1 (zn K (zr K a0 5)) := vp_in_iff.mpr (by rw [(hf_71.2.2 (by decide))]; refine ⟨?_, ?_⟩ <;> omega)
                  refine mst_45 C hM hs hP hS hf_71.1 hT hf_71.2.1 hin_72 trivial dX12_game_132 (fun A_73 H locs hE_73 hT hP hS => ?_)
                  have FA := frA FA (frAu hE_73) (by decide)
                  refine lv_iconst (v := 1) hx hb dX12_game_133 (by decide) ?_
                  have eu_74 : A_73 43 = upd (A 43) (x1.toNatClampNeg) x2 := by rw [hE_73, va_up_ne _ _ (show 43 ≠ 45 by decide), hE_70, va_up_ne _ _ (show 43 ≠ 44 by decide), hE_67, va_up_self]
                  exact maI hQ hx hb hr hlk hP hS ⟨hT, FA, FF, ⟨Or.inr (Or.inr (Or.inr ⟨(fun h => by rcases h with h | ⟨h1, h2 | h2⟩ <;> first | omega | contradiction | (exact absurd (And.left (by assumption)) h2)), (fun h => by unfold gC2 at h; omega), (fun h => by rcases h with ⟨h1, h2 | h2⟩ <;> omega), ti_1⟩)), fun _ => eu_74, fun h9 => absurd ti_1 h9⟩⟩ dX12_game_134
                · skip
                  refine lv_aload_n hx hb dX12_game_97 rfl (lv_at hl 1 rfl) ?_
                  refine mg_3 C hs hP ha0 hk0 wf_X12_21 dX12_game_98 ?_
                  refine lv_iload hx hb dX12_game_101 (lv_at hl 5 rfl) ?_
                  have hin_75 : vp_in x4 (zn K (zr K a0 3)) := vp_in_iff.mpr (by rw [(hf_57.2.2 (by decide))]; refine ⟨?_, ?_⟩ <;> omega)
                  refine mld_43 C hs hP hf_57.1 hf_57.2.1 hin_75 dX12_game_103 ?_
                  refine lv_goto (tgt := 108) hx hb dX12_game_104 (by decide) ?_
                  refine lv_istore (lv' := [(6, .int (A 43 x4.toNatClampNeg)), (5, .int x2), (0, .ref a0), (1, .int x1), (2, .int x2), (3, .int x3), (4, .int x4)]) hx hb dX12_game_108 hl (by decide) rfl (fun ls hl => ?_)
                  refine lv_aload_n hx hb dX12_game_110 rfl (lv_at hl 2 rfl) ?_
                  refine mg_3 C hs hP ha0 hk0 wf_X12_21 dX12_game_111 ?_
                  refine lv_iload_n hx hb dX12_game_114 rfl (lv_at hl 3 rfl) ?_
                  refine lv_iload_n hx hb dX12_game_115 rfl (lv_at hl 4 rfl) ?_
                  have hin_76 : vp_in x1 (zn K (zr K a0 3)) := vp_in_iff.mpr (by rw [(hf_57.2.2 (by decide))]; refine ⟨?_, ?_⟩ <;> omega)
                  refine mst_43 C hM hs hP hS hf_57.1 hT hf_57.2.1 hin_76 trivial dX12_game_116 (fun A_77 H locs hE_77 hT hP hS => ?_)
                  have FA := frA FA (frAu hE_77) (by decide)
                  refine lv_aload_n hx hb dX12_game_117 rfl (lv_at hl 2 rfl) ?_
                  refine mg_4 C hs hP ha0 hk0 wf_X12_24 dX12_game_118 ?_
                  have hf_78 := hO.r (j := 4) ha0 hk0 (rfl : zX 11 4 = some (44, 6))
                  refine lv_iload_n hx hb dX12_game_121 rfl (lv_at hl 3 rfl) ?_
                  refine lv_iload hx hb dX12_game_122 (lv_at hl 1 rfl) ?_
                  have hin_79 : vp_in x1 (zn K (zr K a0 4)) := vp_in_iff.mpr (by rw [(hf_78.2.2 (by decide))]; refine ⟨?_, ?_⟩ <;> omega)
                  refine mst_44 C hM hs hP hS hf_78.1 hT hf_78.2.1 hin_79 trivial dX12_game_124 (fun A_80 H locs hE_80 hT hP hS => ?_)
                  have FA := frA FA (frAu hE_80) (by decide)
                  refine lv_aload_n hx hb dX12_game_125 rfl (lv_at hl 2 rfl) ?_
                  refine mg_5 C hs hP ha0 hk0 wf_X12_27 dX12_game_126 ?_
                  have hf_81 := hO.r (j := 5) ha0 hk0 (rfl : zX 11 5 = some (45, 6))
                  refine lv_iload_n hx hb dX12_game_129 rfl (lv_at hl 3 rfl) ?_
                  refine lv_iload hx hb dX12_game_130 (lv_at hl 0 rfl) ?_
                  have hin_82 : vp_in x1 (zn K (zr K a0 5)) := vp_in_iff.mpr (by rw [(hf_81.2.2 (by decide))]; refine ⟨?_, ?_⟩ <;> omega)
                  refine mst_45 C hM hs hP hS hf_81.1 hT hf_81.2.1 hin_82 trivial dX12_game_132 (fun A_83 H locs hE_83 hT hP hS => ?_)
                  have FA := frA FA (frAu hE_83) (by decide)
                  refine lv_iconst (v := 1) hx hb dX12_game_133 (by decide) ?_
                  have eu_84 : A_83 43 = upd (A 43) (x1.toNatClampNeg) x2 := by rw [hE_83, va_up_ne _ _ (show 43 ≠ 45 by decide), hE_80, va_up_ne _ _ (show 43 ≠ 44 by decide), hE_77, va_up_self]
                  exact maI hQ hx hb hr hlk hP hS ⟨hT, FA, FF, ⟨Or.inr (Or.inr (Or.inr ⟨(fun h => by rcases h with h | ⟨h1, h2 | h2⟩ <;> first | omega | contradiction | (exact absurd (And.left (by assumption)) h2)), (fun h => by unfold gC2 at h; omega), (fun h => by rcases h with ⟨h1, h2 | h2⟩ <;> omega), ti_1⟩)), fun _ => eu_84, fun h9 => absurd ti_1 h9⟩⟩ dX12_game_134
              · skip
                refine lv_aload_n hx hb dX12_game_80 rfl (lv_at hl 0 rfl) ?_
                refine mg_3 C hs hP ha0 hk0 wf_X12_21 dX12_game_81 ?_
                refine lv_iload_n hx hb dX12_game_84 rfl (lv_at hl 3 rfl) ?_
                have hin_85 : vp_in x3 (zn K (zr K a0 3)) := vp_in_iff.mpr (by rw [(hf_57.2.2 (by decide))]; refine ⟨?_, ?_⟩ <;> omega)
                refine mld_43 C hs hP hf_57.1 hf_57.2.1 hin_85 dX12_game_85 ?_
                refine lv_goto (tgt := 90) hx hb dX12_game_86 (by decide) ?_
                refine lv_istore (lv' := [(5, .int (A 43 x3.toNatClampNeg)), (0, .ref a0), (1, .int x1), (2, .int x2), (3, .int x3), (4, .int x4)]) hx hb dX12_game_90 hl (by decide) rfl (fun ls hl => ?_)
                refine lv_iload_n hx hb dX12_game_92 rfl (lv_at hl 3 rfl) ?_
                refine lv_iconst (v := 4) hx hb dX12_game_93 (by decide) ?_
                refine bi_ne (tgt := 107) hx hb rfl ti_4 dX12_game_94 (by decide) (fun c_86 => ?_) (fun c_86 => ?_)
                · skip
                  refine lv_iload_n hx hb dX12_game_107 rfl (lv_at hl 3 rfl) ?_
                  refine lv_istore (lv' := [(6, .int x2), (5, .int (A 43 x3.toNatClampNeg)), (0, .ref a0), (1, .int x1), (2, .int x2), (3, .int x3), (4, .int x4)]) hx hb dX12_game_108 hl (by decide) rfl (fun ls hl => ?_)
                  refine lv_aload_n hx hb dX12_game_110 rfl (lv_at hl 2 rfl) ?_
                  refine mg_3 C hs hP ha0 hk0 wf_X12_21 dX12_game_111 ?_
                  refine lv_iload_n hx hb dX12_game_114 rfl (lv_at hl 3 rfl) ?_
                  refine lv_iload_n hx hb dX12_game_115 rfl (lv_at hl 4 rfl) ?_
                  have hin_87 : vp_in x1 (zn K (zr K a0 3)) := vp_in_iff.mpr (by rw [(hf_57.2.2 (by decide))]; refine ⟨?_, ?_⟩ <;> omega)
                  refine mst_43 C hM hs hP hS hf_57.1 hT hf_57.2.1 hin_87 trivial dX12_game_116 (fun A_88 H locs hE_88 hT hP hS => ?_)
                  have FA := frA FA (frAu hE_88) (by decide)
                  refine lv_aload_n hx hb dX12_game_117 rfl (lv_at hl 2 rfl) ?_
                  refine mg_4 C hs hP ha0 hk0 wf_X12_24 dX12_game_118 ?_
                  have hf_89 := hO.r (j := 4) ha0 hk0 (rfl : zX 11 4 = some (44, 6))
                  refine lv_iload_n hx hb dX12_game_121 rfl (lv_at hl 3 rfl) ?_
                  refine lv_iload hx hb dX12_game_122 (lv_at hl 1 rfl) ?_
                  have hin_90 : vp_in x1 (zn K (zr K a0 4)) := vp_in_iff.mpr (by rw [(hf_89.2.2 (by decide))]; refine ⟨?_, ?_⟩ <;> omega)
                  refine mst_44 C hM hs hP hS hf_89.1 hT hf_89.2.1 hin_90 trivial dX12_game_124 (fun A_91 H locs hE_91 hT hP hS => ?_)
                  have FA := frA FA (frAu hE_91) (by decide)
                  refine lv_aload_n hx hb dX12_game_125 rfl (lv_at hl 2 rfl) ?_
                  refine mg_5 C hs hP ha0 hk0 wf_X12_27 dX12_game_126 ?_
                  have hf_92 := hO.r (j := 5) ha0 hk0 (rfl : zX 11 5 = some (45, 6))
                  refine lv_iload_n hx hb dX12_game_129 rfl (lv_at hl 3 rfl) ?_
                  refine lv_iload hx hb dX12_game_130 (lv_at hl 0 rfl) ?_
                  have hin_93 : vp_in x1 (zn K (zr K a0 5)) := vp_in_iff.mpr (by rw [(hf_92.2.2 (by decide))]; refine ⟨?_, ?_⟩ <;> omega)
                  refine mst_45 C hM hs hP hS hf_92.1 hT hf_92.2.1 hin_93 trivial dX12_game_132 (fun A_94 H locs hE_94 hT hP hS => ?_)
                  have FA := frA FA (frAu hE_94) (by decide)
                  refine lv_iconst (v := 1) hx hb dX12_game_133 (by decide) ?_
                  have eu_95 : A_94 43 = upd (A 43) (x1.toNatClampNeg) x2 := by rw [hE_94, va_up_ne _ _ (show 43 ≠ 45 by decide), hE_91, va_up_ne _ _ (show 43 ≠ 44 by decide), hE_88, va_up_self]
                  exact maI hQ hx hb hr hlk hP hS ⟨hT, FA, FF, ⟨Or.inr (Or.inr (Or.inr ⟨(fun h => by rcases h with h | ⟨h1, h2 | h2⟩ <;> first | omega | contradiction | (exact absurd (And.left (by assumption)) h2)), (fun h => by unfold gC2 at h; omega), (fun h => by rcases h with ⟨h1, h2 | h2⟩ <;> omega), ti_1⟩)), fun _ => eu_95, fun h9 => absurd ti_1 h9⟩⟩ dX12_game_134
                · skip
                  refine lv_aload_n hx hb dX12_game_97 rfl (lv_at hl 1 rfl) ?_
                  refine mg_3 C hs hP ha0 hk0 wf_X12_21 dX12_game_98 ?_
                  refine lv_iload hx hb dX12_game_101 (lv_at hl 5 rfl) ?_
                  have hin_96 : vp_in x4 (zn K (zr K a0 3)) := vp_in_iff.mpr (by rw [(hf_57.2.2 (by decide))]; refine ⟨?_, ?_⟩ <;> omega)
                  refine mld_43 C hs hP hf_57.1 hf_57.2.1 hin_96 dX12_game_103 ?_
                  refine lv_goto (tgt := 108) hx hb dX12_game_104 (by decide) ?_
                  refine lv_istore (lv' := [(6, .int (A 43 x4.toNatClampNeg)), (5, .int (A 43 x3.toNatClampNeg)), (0, .ref a0), (1, .int x1), (2, .int x2), (3, .int x3), (4, .int x4)]) hx hb dX12_game_108 hl (by decide) rfl (fun ls hl => ?_)
                  refine lv_aload_n hx hb dX12_game_110 rfl (lv_at hl 2 rfl) ?_
                  refine mg_3 C hs hP ha0 hk0 wf_X12_21 dX12_game_111 ?_
                  refine lv_iload_n hx hb dX12_game_114 rfl (lv_at hl 3 rfl) ?_
                  refine lv_iload_n hx hb dX12_game_115 rfl (lv_at hl 4 rfl) ?_
                  have hin_97 : vp_in x1 (zn K (zr K a0 3)) := vp_in_iff.mpr (by rw [(hf_57.2.2 (by decide))]; refine ⟨?_, ?_⟩ <;> omega)
                  refine mst_43 C hM hs hP hS hf_57.1 hT hf_57.2.1 hin_97 trivial dX12_game_116 (fun A_98 H locs hE_98 hT hP hS => ?_)
                  have FA := frA FA (frAu hE_98) (by decide)
                  refine lv_aload_n hx hb dX12_game_117 rfl (lv_at hl 2 rfl) ?_
                  refine mg_4 C hs hP ha0 hk0 wf_X12_24 dX12_game_118 ?_
                  have hf_99 := hO.r (j := 4) ha0 hk0 (rfl : zX 11 4 = some (44, 6))
                  refine lv_iload_n hx hb dX12_game_121 rfl (lv_at hl 3 rfl) ?_
                  refine lv_iload hx hb dX12_game_122 (lv_at hl 1 rfl) ?_
                  have hin_100 : vp_in x1 (zn K (zr K a0 4)) := vp_in_iff.mpr (by rw [(hf_99.2.2 (by decide))]; refine ⟨?_, ?_⟩ <;> omega)
                  refine mst_44 C hM hs hP hS hf_99.1 hT hf_99.2.1 hin_100 trivial dX12_game_124 (fun A_101 H locs hE_101 hT hP hS => ?_)
                  have FA := frA FA (frAu hE_101) (by decide)
                  refine lv_aload_n hx hb dX12_game_125 rfl (lv_at hl 2 rfl) ?_
                  refine mg_5 C hs hP ha0 hk0 wf_X12_27 dX12_game_126 ?_
                  have hf_102 := hO.r (j := 5) ha0 hk0 (rfl : zX 11 5 = some (45, 6))
                  refine lv_iload_n hx hb dX12_game_129 rfl (lv_at hl 3 rfl) ?_
                  refine lv_iload hx hb dX12_game_130 (lv_at hl 0 rfl) ?_
                  have hin_103 : vp_in x1 (zn K (zr K a0 5)) := vp_in_iff.mpr (by rw [(hf_102.2.2 (by decide))]; refine ⟨?_, ?_⟩ <;> omega)
                  refine mst_45 C hM hs hP hS hf_102.1 hT hf_102.2.1 hin_103 trivial dX12_game_132 (fun A_104 H locs hE_104 hT hP hS => ?_)
                  have FA := frA FA (frAu hE_104) (by decide)
                  refine lv_iconst (v := 1) hx hb dX12_game_133 (by decide) ?_
                  have eu_105 : A_104 43 = upd (A 43) (x1.toNatClampNeg) x2 := by rw [hE_104, va_up_ne _ _ (show 43 ≠ 45 by decide), hE_101, va_up_ne _ _ (show 43 ≠ 44 by decide), hE_98, va_up_self]
                  exact maI hQ hx hb hr hlk hP hS ⟨hT, FA, FF, ⟨Or.inr (Or.inr (Or.inr ⟨(fun h => by rcases h with h | ⟨h1, h2 | h2⟩ <;> first | omega | contradiction | (exact absurd (And.left (by assumption)) h2)), (fun h => by unfold gC2 at h; omega), (fun h => by rcases h with ⟨h1, h2 | h2⟩ <;> omega), ti_1⟩)), fun _ => eu_105, fun h9 => absurd ti_1 h9⟩⟩ dX12_game_134
            · skip
              refine lv_bipush (v := (-4)) hx hb dX12_game_72 (by decide) ?_
              exact maI hQ hx hb hr hlk hP hS ⟨hT, FA, FF, ⟨Or.inr (Or.inr (Or.inl ⟨(fun h => by rcases h with h | ⟨h1, h2 | h2⟩ <;> first | omega | contradiction | (exact absurd (And.left (by assumption)) h2)), (fun h => by unfold gC2 at h; omega), by first | exact ⟨by omega, Or.inl (by omega)⟩ | exact ⟨by omega, Or.inr (by omega)⟩, ti_m4⟩)), fun h9 => absurd h9 (by rw [ti_m4]; decide), fun _ => rfl⟩⟩ dX12_game_74
      · skip
        replace pp_5 := pp_5.2 c_7
        refine lv_bipush (v := (-3)) hx hb dX12_game_43 (by decide) ?_
        exact maI hQ hx hb hr hlk hP hS ⟨hT, FA, FF, ⟨Or.inr (Or.inl ⟨(fun h => by rcases h with h | ⟨h1, h2 | h2⟩ <;> first | omega | contradiction | (exact absurd (And.left (by assumption)) h2)), by unfold gC2; omega, ti_m3⟩), fun h9 => absurd h9 (by rw [ti_m3]; decide), fun _ => rfl⟩⟩ dX12_game_45
    · skip
      refine lv_aload_n hx hb dX12_game_14 rfl (lv_at hl 0 rfl) ?_
      refine lv_iload_n hx hb dX12_game_15 rfl (lv_at hl 3 rfl) ?_
      refine zcS (zrV (As := [.int x3]) (b := a0) (rest := []) C hs hP hS (c2_X12_isGame l D K hM f A hT a0 ha0 hk0 x3) m_X12_isGame wm_X12_99 (zrecv hs hP ha0 (zF_11 hk0) rfl) ⟨by decide, by decide⟩ hl.1 (Nat.le_of_ble_eq_true rfl) dX12_game_16) (fun x_106 p_106 => ?_)
      have pp_106 : (x_106.toInt ≠ 0 → isG (A 43) x3 ∧ 0 ≤ x3.toInt ∧ x3.toInt ≤ 5) ∧ (x_106.toInt = 0 → ¬ isG (A 43) x3) := p_106.2
      have g_107 := z_rng x3
      refine bz_eq (tgt := 31) hx hb rfl dX12_game_19 (by decide) (fun c_108 => ?_) (fun c_108 => ?_)
      · skip
        replace pp_106 := pp_106.2 c_108
        refine lv_bipush (v := (-2)) hx hb dX12_game_31 (by decide) ?_
        exact maI hQ hx hb hr hlk hP hS ⟨hT, FA, FF, ⟨Or.inl ⟨by first | exact Or.inl (by omega) | exact Or.inr ⟨by omega, Or.inl (by assumption)⟩ | exact Or.inr ⟨by omega, Or.inr (by assumption)⟩, ti_m2⟩, fun h9 => absurd h9 (by rw [ti_m2]; decide), fun _ => rfl⟩⟩ dX12_game_33
      · skip
        replace pp_106 := pp_106.1 c_108
        refine lv_aload_n hx hb dX12_game_22 rfl (lv_at hl 0 rfl) ?_
        refine lv_iload hx hb dX12_game_23 (lv_at hl 4 rfl) ?_
        refine zcS (zrV (As := [.int x4]) (b := a0) (rest := []) C hs hP hS (c2_X12_isGame l D K hM f A hT a0 ha0 hk0 x4) m_X12_isGame wm_X12_99 (zrecv hs hP ha0 (zF_11 hk0) rfl) ⟨by decide, by decide⟩ hl.1 (Nat.le_of_ble_eq_true rfl) dX12_game_25) (fun x_109 p_109 => ?_)
        have pp_109 : (x_109.toInt ≠ 0 → isG (A 43) x4 ∧ 0 ≤ x4.toInt ∧ x4.toInt ≤ 5) ∧ (x_109.toInt = 0 → ¬ isG (A 43) x4) := p_109.2
        have g_110 := z_rng x4
        refine bz_ne (tgt := 34) hx hb rfl dX12_game_28 (by decide) (fun c_111 => ?_) (fun c_111 => ?_)
        · skip
          replace pp_109 := pp_109.1 c_111
          refine lv_iload_n hx hb dX12_game_34 rfl (lv_at hl 2 rfl) ?_
          refine lv_iconst (v := 0) hx hb dX12_game_35 (by decide) ?_
          refine lv_iconst (v := 4) hx hb dX12_game_36 (by decide) ?_
          refine zcS (zrS (As := [.int x2, .int 0, .int 4]) (rest := []) C hs hP hS (c_X12_in l D K hM f A hT x2 0 4) m_X12_in wm_X12_91 ⟨by decide, by decide⟩ hl.1 (Nat.le_of_ble_eq_true rfl) dX12_game_37) (fun x_112 p_112 => ?_)
          have pp_112 : (x_112.toInt ≠ 0 → (0 : Int32).toInt ≤ x2.toInt ∧ x2.toInt ≤ (4 : Int32).toInt) ∧ (x_112.toInt = 0 → x2.toInt < (0 : Int32).toInt ∨ (4 : Int32).toInt < x2.toInt) := p_112.2
          try simp only [ti_0, ti_4] at pp_112
          have g_113 := z_rng x2
          refine bz_ne (tgt := 46) hx hb rfl dX12_game_40 (by decide) (fun c_114 => ?_) (fun c_114 => ?_)
          · skip
            replace pp_112 := pp_112.1 c_114
            refine lv_iload_n hx hb dX12_game_46 rfl (lv_at hl 2 rfl) ?_
            refine lv_iconst (v := 4) hx hb dX12_game_47 (by decide) ?_
            refine bi_ne (tgt := 75) hx hb rfl ti_4 dX12_game_48 (by decide) (fun c_115 => ?_) (fun c_115 => ?_)
            · skip
              refine lv_iload_n hx hb dX12_game_75 rfl (lv_at hl 2 rfl) ?_
              refine lv_iconst (v := 4) hx hb dX12_game_76 (by decide) ?_
              refine bi_ne (tgt := 89) hx hb rfl ti_4 dX12_game_77 (by decide) (fun c_116 => ?_) (fun c_116 => ?_)
              · skip
                refine lv_iload_n hx hb dX12_game_89 rfl (lv_at hl 2 rfl) ?_
                refine lv_istore (lv' := [(5, .int x2), (0, .ref a0), (1, .int x1), (2, .int x2), (3, .int x3), (4, .int x4)]) hx hb dX12_game_90 hl (by decide) rfl (fun ls hl => ?_)
                refine lv_iload_n hx hb dX12_game_92 rfl (lv_at hl 3 rfl) ?_
                refine lv_iconst (v := 4) hx hb dX12_game_93 (by decide) ?_
                refine bi_ne (tgt := 107) hx hb rfl ti_4 dX12_game_94 (by decide) (fun c_117 => ?_) (fun c_117 => ?_)
                · skip
                  refine lv_iload_n hx hb dX12_game_107 rfl (lv_at hl 3 rfl) ?_
                  refine lv_istore (lv' := [(6, .int x2), (5, .int x2), (0, .ref a0), (1, .int x1), (2, .int x2), (3, .int x3), (4, .int x4)]) hx hb dX12_game_108 hl (by decide) rfl (fun ls hl => ?_)
                  refine lv_aload_n hx hb dX12_game_110 rfl (lv_at hl 2 rfl) ?_
                  refine mg_3 C hs hP ha0 hk0 wf_X12_21 dX12_game_111 ?_
                  have hf_118 := hO.r (j := 3) ha0 hk0 (rfl : zX 11 3 = some (43, 6))
                  refine lv_iload_n hx hb dX12_game_114 rfl (lv_at hl 3 rfl) ?_
                  refine lv_iload_n hx hb dX12_game_115 rfl (lv_at hl 4 rfl) ?_
                  have hin_119 : vp_in x1 (zn K (zr K a0 3)) := vp_in_iff.mpr (by rw [(hf_118.2.2 (by decide))]; refine ⟨?_, ?_⟩ <;> omega)
                  refine mst_43 C hM hs hP hS hf_118.1 hT hf_118.2.1 hin_119 trivial dX12_game_116 (fun A_120 H locs hE_120 hT hP hS => ?_)
                  have FA := frA FA (frAu hE_120) (by decide)
                  refine lv_aload_n hx hb dX12_game_117 rfl (lv_at hl 2 rfl) ?_
                  refine mg_4 C hs hP ha0 hk0 wf_X12_24 dX12_game_118 ?_
                  have hf_121 := hO.r (j := 4) ha0 hk0 (rfl : zX 11 4 = some (44, 6))
                  refine lv_iload_n hx hb dX12_game_121 rfl (lv_at hl 3 rfl) ?_
                  refine lv_iload hx hb dX12_game_122 (lv_at hl 1 rfl) ?_
                  have hin_122 : vp_in x1 (zn K (zr K a0 4)) := vp_in_iff.mpr (by rw [(hf_121.2.2 (by decide))]; refine ⟨?_, ?_⟩ <;> omega)
                  refine mst_44 C hM hs hP hS hf_121.1 hT hf_121.2.1 hin_122 trivial dX12_game_124 (fun A_123 H locs hE_123 hT hP hS => ?_)
                  have FA := frA FA (frAu hE_123) (by decide)
                  refine lv_aload_n hx hb dX12_game_125 rfl (lv_at hl 2 rfl) ?_
                  refine mg_5 C hs hP ha0 hk0 wf_X12_27 dX12_game_126 ?_
                  have hf_124 := hO.r (j := 5) ha0 hk0 (rfl : zX 11 5 = some (45, 6))
                  refine lv_iload_n hx hb dX12_game_129 rfl (lv_at hl 3 rfl) ?_
                  refine lv_iload hx hb dX12_game_130 (lv_at hl 0 rfl) ?_
                  have hin_125 : vp_in x1 (zn K (zr K a0 5)) := vp_in_iff.mpr (by rw [(hf_124.2.2 (by decide))]; refine ⟨?_, ?_⟩ <;> omega)
                  refine mst_45 C hM hs hP hS hf_124.1 hT hf_124.2.1 hin_125 trivial dX12_game_132 (fun A_126 H locs hE_126 hT hP hS => ?_)
                  have FA := frA FA (frAu hE_126) (by decide)
                  refine lv_iconst (v := 1) hx hb dX12_game_133 (by decide) ?_
                  have eu_127 : A_126 43 = upd (A 43) (x1.toNatClampNeg) x2 := by rw [hE_126, va_up_ne _ _ (show 43 ≠ 45 by decide), hE_123, va_up_ne _ _ (show 43 ≠ 44 by decide), hE_120, va_up_self]
                  exact maI hQ hx hb hr hlk hP hS ⟨hT, FA, FF, ⟨Or.inr (Or.inr (Or.inr ⟨(fun h => by rcases h with h | ⟨h1, h2 | h2⟩ <;> first | omega | contradiction | (exact absurd (And.left (by assumption)) h2)), (fun h => by unfold gC2 at h; omega), (fun h => by rcases h with ⟨h1, h2 | h2⟩ <;> omega), ti_1⟩)), fun _ => eu_127, fun h9 => absurd ti_1 h9⟩⟩ dX12_game_134
                · skip
                  refine lv_aload_n hx hb dX12_game_97 rfl (lv_at hl 1 rfl) ?_
                  refine mg_3 C hs hP ha0 hk0 wf_X12_21 dX12_game_98 ?_
                  have hf_128 := hO.r (j := 3) ha0 hk0 (rfl : zX 11 3 = some (43, 6))
                  refine lv_iload hx hb dX12_game_101 (lv_at hl 5 rfl) ?_
                  have hin_129 : vp_in x4 (zn K (zr K a0 3)) := vp_in_iff.mpr (by rw [(hf_128.2.2 (by decide))]; refine ⟨?_, ?_⟩ <;> omega)
                  refine mld_43 C hs hP hf_128.1 hf_128.2.1 hin_129 dX12_game_103 ?_
                  refine lv_goto (tgt := 108) hx hb dX12_game_104 (by decide) ?_
                  refine lv_istore (lv' := [(6, .int (A 43 x4.toNatClampNeg)), (5, .int x2), (0, .ref a0), (1, .int x1), (2, .int x2), (3, .int x3), (4, .int x4)]) hx hb dX12_game_108 hl (by decide) rfl (fun ls hl => ?_)
                  refine lv_aload_n hx hb dX12_game_110 rfl (lv_at hl 2 rfl) ?_
                  refine mg_3 C hs hP ha0 hk0 wf_X12_21 dX12_game_111 ?_
                  refine lv_iload_n hx hb dX12_game_114 rfl (lv_at hl 3 rfl) ?_
                  refine lv_iload_n hx hb dX12_game_115 rfl (lv_at hl 4 rfl) ?_
                  have hin_130 : vp_in x1 (zn K (zr K a0 3)) := vp_in_iff.mpr (by rw [(hf_128.2.2 (by decide))]; refine ⟨?_, ?_⟩ <;> omega)
                  refine mst_43 C hM hs hP hS hf_128.1 hT hf_128.2.1 hin_130 trivial dX12_game_116 (fun A_131 H locs hE_131 hT hP hS => ?_)
                  have FA := frA FA (frAu hE_131) (by decide)
                  refine lv_aload_n hx hb dX12_game_117 rfl (lv_at hl 2 rfl) ?_
                  refine mg_4 C hs hP ha0 hk0 wf_X12_24 dX12_game_118 ?_
                  have hf_132 := hO.r (j := 4) ha0 hk0 (rfl : zX 11 4 = some (44, 6))
                  refine lv_iload_n hx hb dX12_game_121 rfl (lv_at hl 3 rfl) ?_
                  refine lv_iload hx hb dX12_game_122 (lv_at hl 1 rfl) ?_
                  have hin_133 : vp_in x1 (zn K (zr K a0 4)) := vp_in_iff.mpr (by rw [(hf_132.2.2 (by decide))]; refine ⟨?_, ?_⟩ <;> omega)
                  refine mst_44 C hM hs hP hS hf_132.1 hT hf_132.2.1 hin_133 trivial dX12_game_124 (fun A_134 H locs hE_134 hT hP hS => ?_)
                  have FA := frA FA (frAu hE_134) (by decide)
                  refine lv_aload_n hx hb dX12_game_125 rfl (lv_at hl 2 rfl) ?_
                  refine mg_5 C hs hP ha0 hk0 wf_X12_27 dX12_game_126 ?_
                  have hf_135 := hO.r (j := 5) ha0 hk0 (rfl : zX 11 5 = some (45, 6))
                  refine lv_iload_n hx hb dX12_game_129 rfl (lv_at hl 3 rfl) ?_
                  refine lv_iload hx hb dX12_game_130 (lv_at hl 0 rfl) ?_
                  have hin_136 : vp_in x1 (zn K (zr K a0 5)) := vp_in_iff.mpr (by rw [(hf_135.2.2 (by decide))]; refine ⟨?_, ?_⟩ <;> omega)
                  refine mst_45 C hM hs hP hS hf_135.1 hT hf_135.2.1 hin_136 trivial dX12_game_132 (fun A_137 H locs hE_137 hT hP hS => ?_)
                  have FA := frA FA (frAu hE_137) (by decide)
                  refine lv_iconst (v := 1) hx hb dX12_game_133 (by decide) ?_
                  have eu_138 : A_137 43 = upd (A 43) (x1.toNatClampNeg) x2 := by rw [hE_137, va_up_ne _ _ (show 43 ≠ 45 by decide), hE_134, va_up_ne _ _ (show 43 ≠ 44 by decide), hE_131, va_up_self]
                  exact maI hQ hx hb hr hlk hP hS ⟨hT, FA, FF, ⟨Or.inr (Or.inr (Or.inr ⟨(fun h => by rcases h with h | ⟨h1, h2 | h2⟩ <;> first | omega | contradiction | (exact absurd (And.left (by assumption)) h2)), (fun h => by unfold gC2 at h; omega), (fun h => by rcases h with ⟨h1, h2 | h2⟩ <;> omega), ti_1⟩)), fun _ => eu_138, fun h9 => absurd ti_1 h9⟩⟩ dX12_game_134
              · skip
                refine lv_aload_n hx hb dX12_game_80 rfl (lv_at hl 0 rfl) ?_
                refine mg_3 C hs hP ha0 hk0 wf_X12_21 dX12_game_81 ?_
                have hf_139 := hO.r (j := 3) ha0 hk0 (rfl : zX 11 3 = some (43, 6))
                refine lv_iload_n hx hb dX12_game_84 rfl (lv_at hl 3 rfl) ?_
                have hin_140 : vp_in x3 (zn K (zr K a0 3)) := vp_in_iff.mpr (by rw [(hf_139.2.2 (by decide))]; refine ⟨?_, ?_⟩ <;> omega)
                refine mld_43 C hs hP hf_139.1 hf_139.2.1 hin_140 dX12_game_85 ?_
                refine lv_goto (tgt := 90) hx hb dX12_game_86 (by decide) ?_
                refine lv_istore (lv' := [(5, .int (A 43 x3.toNatClampNeg)), (0, .ref a0), (1, .int x1), (2, .int x2), (3, .int x3), (4, .int x4)]) hx hb dX12_game_90 hl (by decide) rfl (fun ls hl => ?_)
                refine lv_iload_n hx hb dX12_game_92 rfl (lv_at hl 3 rfl) ?_
                refine lv_iconst (v := 4) hx hb dX12_game_93 (by decide) ?_
                refine bi_ne (tgt := 107) hx hb rfl ti_4 dX12_game_94 (by decide) (fun c_141 => ?_) (fun c_141 => ?_)
                · skip
                  refine lv_iload_n hx hb dX12_game_107 rfl (lv_at hl 3 rfl) ?_
                  refine lv_istore (lv' := [(6, .int x2), (5, .int (A 43 x3.toNatClampNeg)), (0, .ref a0), (1, .int x1), (2, .int x2), (3, .int x3), (4, .int x4)]) hx hb dX12_game_108 hl (by decide) rfl (fun ls hl => ?_)
                  refine lv_aload_n hx hb dX12_game_110 rfl (lv_at hl 2 rfl) ?_
                  refine mg_3 C hs hP ha0 hk0 wf_X12_21 dX12_game_111 ?_
                  refine lv_iload_n hx hb dX12_game_114 rfl (lv_at hl 3 rfl) ?_
                  refine lv_iload_n hx hb dX12_game_115 rfl (lv_at hl 4 rfl) ?_
                  have hin_142 : vp_in x1 (zn K (zr K a0 3)) := vp_in_iff.mpr (by rw [(hf_139.2.2 (by decide))]; refine ⟨?_, ?_⟩ <;> omega)
                  refine mst_43 C hM hs hP hS hf_139.1 hT hf_139.2.1 hin_142 trivial dX12_game_116 (fun A_143 H locs hE_143 hT hP hS => ?_)
                  have FA := frA FA (frAu hE_143) (by decide)
                  refine lv_aload_n hx hb dX12_game_117 rfl (lv_at hl 2 rfl) ?_
                  refine mg_4 C hs hP ha0 hk0 wf_X12_24 dX12_game_118 ?_
                  have hf_144 := hO.r (j := 4) ha0 hk0 (rfl : zX 11 4 = some (44, 6))
                  refine lv_iload_n hx hb dX12_game_121 rfl (lv_at hl 3 rfl) ?_
                  refine lv_iload hx hb dX12_game_122 (lv_at hl 1 rfl) ?_
                  have hin_145 : vp_in x1 (zn K (zr K a0 4)) := vp_in_iff.mpr (by rw [(hf_144.2.2 (by decide))]; refine ⟨?_, ?_⟩ <;> omega)
                  refine mst_44 C hM hs hP hS hf_144.1 hT hf_144.2.1 hin_145 trivial dX12_game_124 (fun A_146 H locs hE_146 hT hP hS => ?_)
                  have FA := frA FA (frAu hE_146) (by decide)
                  refine lv_aload_n hx hb dX12_game_125 rfl (lv_at hl 2 rfl) ?_
                  refine mg_5 C hs hP ha0 hk0 wf_X12_27 dX12_game_126 ?_
                  have hf_147 := hO.r (j := 5) ha0 hk0 (rfl : zX 11 5 = some (45, 6))
                  refine lv_iload_n hx hb dX12_game_129 rfl (lv_at hl 3 rfl) ?_
                  refine lv_iload hx hb dX12_game_130 (lv_at hl 0 rfl) ?_
                  have hin_148 : vp_in x1 (zn K (zr K a0 5)) := vp_in_iff.mpr (by rw [(hf_147.2.2 (by decide))]; refine ⟨?_, ?_⟩ <;> omega)
                  refine mst_45 C hM hs hP hS hf_147.1 hT hf_147.2.1 hin_148 trivial dX12_game_132 (fun A_149 H locs hE_149 hT hP hS => ?_)
                  have FA := frA FA (frAu hE_149) (by decide)
                  refine lv_iconst (v := 1) hx hb dX12_game_133 (by decide) ?_
                  have eu_150 : A_149 43 = upd (A 43) (x1.toNatClampNeg) x2 := by rw [hE_149, va_up_ne _ _ (show 43 ≠ 45 by decide), hE_146, va_up_ne _ _ (show 43 ≠ 44 by decide), hE_143, va_up_self]
                  exact maI hQ hx hb hr hlk hP hS ⟨hT, FA, FF, ⟨Or.inr (Or.inr (Or.inr ⟨(fun h => by rcases h with h | ⟨h1, h2 | h2⟩ <;> first | omega | contradiction | (exact absurd (And.left (by assumption)) h2)), (fun h => by unfold gC2 at h; omega), (fun h => by rcases h with ⟨h1, h2 | h2⟩ <;> omega), ti_1⟩)), fun _ => eu_150, fun h9 => absurd ti_1 h9⟩⟩ dX12_game_134
                · skip
                  refine lv_aload_n hx hb dX12_game_97 rfl (lv_at hl 1 rfl) ?_
                  refine mg_3 C hs hP ha0 hk0 wf_X12_21 dX12_game_98 ?_
                  refine lv_iload hx hb dX12_game_101 (lv_at hl 5 rfl) ?_
                  have hin_151 : vp_in x4 (zn K (zr K a0 3)) := vp_in_iff.mpr (by rw [(hf_139.2.2 (by decide))]; refine ⟨?_, ?_⟩ <;> omega)
                  refine mld_43 C hs hP hf_139.1 hf_139.2.1 hin_151 dX12_game_103 ?_
                  refine lv_goto (tgt := 108) hx hb dX12_game_104 (by decide) ?_
                  refine lv_istore (lv' := [(6, .int (A 43 x4.toNatClampNeg)), (5, .int (A 43 x3.toNatClampNeg)), (0, .ref a0), (1, .int x1), (2, .int x2), (3, .int x3), (4, .int x4)]) hx hb dX12_game_108 hl (by decide) rfl (fun ls hl => ?_)
                  refine lv_aload_n hx hb dX12_game_110 rfl (lv_at hl 2 rfl) ?_
                  refine mg_3 C hs hP ha0 hk0 wf_X12_21 dX12_game_111 ?_
                  refine lv_iload_n hx hb dX12_game_114 rfl (lv_at hl 3 rfl) ?_
                  refine lv_iload_n hx hb dX12_game_115 rfl (lv_at hl 4 rfl) ?_
                  have hin_152 : vp_in x1 (zn K (zr K a0 3)) := vp_in_iff.mpr (by rw [(hf_139.2.2 (by decide))]; refine ⟨?_, ?_⟩ <;> omega)
                  refine mst_43 C hM hs hP hS hf_139.1 hT hf_139.2.1 hin_152 trivial dX12_game_116 (fun A_153 H locs hE_153 hT hP hS => ?_)
                  have FA := frA FA (frAu hE_153) (by decide)
                  refine lv_aload_n hx hb dX12_game_117 rfl (lv_at hl 2 rfl) ?_
                  refine mg_4 C hs hP ha0 hk0 wf_X12_24 dX12_game_118 ?_
                  have hf_154 := hO.r (j := 4) ha0 hk0 (rfl : zX 11 4 = some (44, 6))
                  refine lv_iload_n hx hb dX12_game_121 rfl (lv_at hl 3 rfl) ?_
                  refine lv_iload hx hb dX12_game_122 (lv_at hl 1 rfl) ?_
                  have hin_155 : vp_in x1 (zn K (zr K a0 4)) := vp_in_iff.mpr (by rw [(hf_154.2.2 (by decide))]; refine ⟨?_, ?_⟩ <;> omega)
                  refine mst_44 C hM hs hP hS hf_154.1 hT hf_154.2.1 hin_155 trivial dX12_game_124 (fun A_156 H locs hE_156 hT hP hS => ?_)
                  have FA := frA FA (frAu hE_156) (by decide)
                  refine lv_aload_n hx hb dX12_game_125 rfl (lv_at hl 2 rfl) ?_
                  refine mg_5 C hs hP ha0 hk0 wf_X12_27 dX12_game_126 ?_
                  have hf_157 := hO.r (j := 5) ha0 hk0 (rfl : zX 11 5 = some (45, 6))
                  refine lv_iload_n hx hb dX12_game_129 rfl (lv_at hl 3 rfl) ?_
                  refine lv_iload hx hb dX12_game_130 (lv_at hl 0 rfl) ?_
                  have hin_158 : vp_in x1 (zn K (zr K a0 5)) := vp_in_iff.mpr (by rw [(hf_157.2.2 (by decide))]; refine ⟨?_, ?_⟩ <;> omega)
                  refine mst_45 C hM hs hP hS hf_157.1 hT hf_157.2.1 hin_158 trivial dX12_game_132 (fun A_159 H locs hE_159 hT hP hS => ?_)
                  have FA := frA FA (frAu hE_159) (by decide)
                  refine lv_iconst (v := 1) hx hb dX12_game_133 (by decide) ?_
                  have eu_160 : A_159 43 = upd (A 43) (x1.toNatClampNeg) x2 := by rw [hE_159, va_up_ne _ _ (show 43 ≠ 45 by decide), hE_156, va_up_ne _ _ (show 43 ≠ 44 by decide), hE_153, va_up_self]
                  exact maI hQ hx hb hr hlk hP hS ⟨hT, FA, FF, ⟨Or.inr (Or.inr (Or.inr ⟨(fun h => by rcases h with h | ⟨h1, h2 | h2⟩ <;> first | omega | contradiction | (exact absurd (And.left (by assumption)) h2)), (fun h => by unfold gC2 at h; omega), (fun h => by rcases h with ⟨h1, h2 | h2⟩ <;> omega), ti_1⟩)), fun _ => eu_160, fun h9 => absurd ti_1 h9⟩⟩ dX12_game_134
            · skip
              refine lv_aload_n hx hb dX12_game_51 rfl (lv_at hl 0 rfl) ?_
              refine mg_3 C hs hP ha0 hk0 wf_X12_21 dX12_game_52 ?_
              have hf_161 := hO.r (j := 3) ha0 hk0 (rfl : zX 11 3 = some (43, 6))
              refine lv_iload_n hx hb dX12_game_55 rfl (lv_at hl 3 rfl) ?_
              have hin_162 : vp_in x3 (zn K (zr K a0 3)) := vp_in_iff.mpr (by rw [(hf_161.2.2 (by decide))]; refine ⟨?_, ?_⟩ <;> omega)
              refine mld_43 C hs hP hf_161.1 hf_161.2.1 hin_162 dX12_game_56 ?_
              refine lv_iconst (v := 4) hx hb dX12_game_57 (by decide) ?_
              refine bi_eq (tgt := 72) hx hb rfl ti_4 dX12_game_58 (by decide) (fun c_163 => ?_) (fun c_163 => ?_)
              · skip
                refine lv_bipush (v := (-4)) hx hb dX12_game_72 (by decide) ?_
                exact maI hQ hx hb hr hlk hP hS ⟨hT, FA, FF, ⟨Or.inr (Or.inr (Or.inl ⟨(fun h => by rcases h with h | ⟨h1, h2 | h2⟩ <;> first | omega | contradiction | (exact absurd (And.left (by assumption)) h2)), (fun h => by unfold gC2 at h; omega), by first | exact ⟨by omega, Or.inl (by omega)⟩ | exact ⟨by omega, Or.inr (by omega)⟩, ti_m4⟩)), fun h9 => absurd h9 (by rw [ti_m4]; decide), fun _ => rfl⟩⟩ dX12_game_74
              · skip
                refine lv_aload_n hx hb dX12_game_61 rfl (lv_at hl 0 rfl) ?_
                refine mg_3 C hs hP ha0 hk0 wf_X12_21 dX12_game_62 ?_
                refine lv_iload hx hb dX12_game_65 (lv_at hl 4 rfl) ?_
                have hin_164 : vp_in x4 (zn K (zr K a0 3)) := vp_in_iff.mpr (by rw [(hf_161.2.2 (by decide))]; refine ⟨?_, ?_⟩ <;> omega)
                refine mld_43 C hs hP hf_161.1 hf_161.2.1 hin_164 dX12_game_67 ?_
                refine lv_iconst (v := 4) hx hb dX12_game_68 (by decide) ?_
                refine bi_ne (tgt := 75) hx hb rfl ti_4 dX12_game_69 (by decide) (fun c_165 => ?_) (fun c_165 => ?_)
                · skip
                  refine lv_iload_n hx hb dX12_game_75 rfl (lv_at hl 2 rfl) ?_
                  refine lv_iconst (v := 4) hx hb dX12_game_76 (by decide) ?_
                  refine bi_ne (tgt := 89) hx hb rfl ti_4 dX12_game_77 (by decide) (fun c_166 => ?_) (fun c_166 => ?_)
                  · skip
                    refine lv_iload_n hx hb dX12_game_89 rfl (lv_at hl 2 rfl) ?_
                    refine lv_istore (lv' := [(5, .int x2), (0, .ref a0), (1, .int x1), (2, .int x2), (3, .int x3), (4, .int x4)]) hx hb dX12_game_90 hl (by decide) rfl (fun ls hl => ?_)
                    refine lv_iload_n hx hb dX12_game_92 rfl (lv_at hl 3 rfl) ?_
                    refine lv_iconst (v := 4) hx hb dX12_game_93 (by decide) ?_
                    refine bi_ne (tgt := 107) hx hb rfl ti_4 dX12_game_94 (by decide) (fun c_167 => ?_) (fun c_167 => ?_)
                    · skip
                      refine lv_iload_n hx hb dX12_game_107 rfl (lv_at hl 3 rfl) ?_
                      refine lv_istore (lv' := [(6, .int x2), (5, .int x2), (0, .ref a0), (1, .int x1), (2, .int x2), (3, .int x3), (4, .int x4)]) hx hb dX12_game_108 hl (by decide) rfl (fun ls hl => ?_)
                      refine lv_aload_n hx hb dX12_game_110 rfl (lv_at hl 2 rfl) ?_
                      refine mg_3 C hs hP ha0 hk0 wf_X12_21 dX12_game_111 ?_
                      refine lv_iload_n hx hb dX12_game_114 rfl (lv_at hl 3 rfl) ?_
                      refine lv_iload_n hx hb dX12_game_115 rfl (lv_at hl 4 rfl) ?_
                      have hin_168 : vp_in x1 (zn K (zr K a0 3)) := vp_in_iff.mpr (by rw [(hf_161.2.2 (by decide))]; refine ⟨?_, ?_⟩ <;> omega)
                      refine mst_43 C hM hs hP hS hf_161.1 hT hf_161.2.1 hin_168 trivial dX12_game_116 (fun A_169 H locs hE_169 hT hP hS => ?_)
                      have FA := frA FA (frAu hE_169) (by decide)
                      refine lv_aload_n hx hb dX12_game_117 rfl (lv_at hl 2 rfl) ?_
                      refine mg_4 C hs hP ha0 hk0 wf_X12_24 dX12_game_118 ?_
                      have hf_170 := hO.r (j := 4) ha0 hk0 (rfl : zX 11 4 = some (44, 6))
                      refine lv_iload_n hx hb dX12_game_121 rfl (lv_at hl 3 rfl) ?_
                      refine lv_iload hx hb dX12_game_122 (lv_at hl 1 rfl) ?_
                      have hin_171 : vp_in x1 (zn K (zr K a0 4)) := vp_in_iff.mpr (by rw [(hf_170.2.2 (by decide))]; refine ⟨?_, ?_⟩ <;> omega)
                      refine mst_44 C hM hs hP hS hf_170.1 hT hf_170.2.1 hin_171 trivial dX12_game_124 (fun A_172 H locs hE_172 hT hP hS => ?_)
                      have FA := frA FA (frAu hE_172) (by decide)
                      refine lv_aload_n hx hb dX12_game_125 rfl (lv_at hl 2 rfl) ?_
                      refine mg_5 C hs hP ha0 hk0 wf_X12_27 dX12_game_126 ?_
                      have hf_173 := hO.r (j := 5) ha0 hk0 (rfl : zX 11 5 = some (45, 6))
                      refine lv_iload_n hx hb dX12_game_129 rfl (lv_at hl 3 rfl) ?_
                      refine lv_iload hx hb dX12_game_130 (lv_at hl 0 rfl) ?_
                      have hin_174 : vp_in x1 (zn K (zr K a0 5)) := vp_in_iff.mpr (by rw [(hf_173.2.2 (by decide))]; refine ⟨?_, ?_⟩ <;> omega)
                      refine mst_45 C hM hs hP hS hf_173.1 hT hf_173.2.1 hin_174 trivial dX12_game_132 (fun A_175 H locs hE_175 hT hP hS => ?_)
                      have FA := frA FA (frAu hE_175) (by decide)
                      refine lv_iconst (v := 1) hx hb dX12_game_133 (by decide) ?_
                      have eu_176 : A_175 43 = upd (A 43) (x1.toNatClampNeg) x2 := by rw [hE_175, va_up_ne _ _ (show 43 ≠ 45 by decide), hE_172, va_up_ne _ _ (show 43 ≠ 44 by decide), hE_169, va_up_self]
                      exact maI hQ hx hb hr hlk hP hS ⟨hT, FA, FF, ⟨Or.inr (Or.inr (Or.inr ⟨(fun h => by rcases h with h | ⟨h1, h2 | h2⟩ <;> first | omega | contradiction | (exact absurd (And.left (by assumption)) h2)), (fun h => by unfold gC2 at h; omega), (fun h => by rcases h with ⟨h1, h2 | h2⟩ <;> omega), ti_1⟩)), fun _ => eu_176, fun h9 => absurd ti_1 h9⟩⟩ dX12_game_134
                    · skip
                      refine lv_aload_n hx hb dX12_game_97 rfl (lv_at hl 1 rfl) ?_
                      refine mg_3 C hs hP ha0 hk0 wf_X12_21 dX12_game_98 ?_
                      refine lv_iload hx hb dX12_game_101 (lv_at hl 5 rfl) ?_
                      have hin_177 : vp_in x4 (zn K (zr K a0 3)) := vp_in_iff.mpr (by rw [(hf_161.2.2 (by decide))]; refine ⟨?_, ?_⟩ <;> omega)
                      refine mld_43 C hs hP hf_161.1 hf_161.2.1 hin_177 dX12_game_103 ?_
                      refine lv_goto (tgt := 108) hx hb dX12_game_104 (by decide) ?_
                      refine lv_istore (lv' := [(6, .int (A 43 x4.toNatClampNeg)), (5, .int x2), (0, .ref a0), (1, .int x1), (2, .int x2), (3, .int x3), (4, .int x4)]) hx hb dX12_game_108 hl (by decide) rfl (fun ls hl => ?_)
                      refine lv_aload_n hx hb dX12_game_110 rfl (lv_at hl 2 rfl) ?_
                      refine mg_3 C hs hP ha0 hk0 wf_X12_21 dX12_game_111 ?_
                      refine lv_iload_n hx hb dX12_game_114 rfl (lv_at hl 3 rfl) ?_
                      refine lv_iload_n hx hb dX12_game_115 rfl (lv_at hl 4 rfl) ?_
                      have hin_178 : vp_in x1 (zn K (zr K a0 3)) := vp_in_iff.mpr (by rw [(hf_161.2.2 (by decide))]; refine ⟨?_, ?_⟩ <;> omega)
                      refine mst_43 C hM hs hP hS hf_161.1 hT hf_161.2.1 hin_178 trivial dX12_game_116 (fun A_179 H locs hE_179 hT hP hS => ?_)
                      have FA := frA FA (frAu hE_179) (by decide)
                      refine lv_aload_n hx hb dX12_game_117 rfl (lv_at hl 2 rfl) ?_
                      refine mg_4 C hs hP ha0 hk0 wf_X12_24 dX12_game_118 ?_
                      have hf_180 := hO.r (j := 4) ha0 hk0 (rfl : zX 11 4 = some (44, 6))
                      refine lv_iload_n hx hb dX12_game_121 rfl (lv_at hl 3 rfl) ?_
                      refine lv_iload hx hb dX12_game_122 (lv_at hl 1 rfl) ?_
                      have hin_181 : vp_in x1 (zn K (zr K a0 4)) := vp_in_iff.mpr (by rw [(hf_180.2.2 (by decide))]; refine ⟨?_, ?_⟩ <;> omega)
                      refine mst_44 C hM hs hP hS hf_180.1 hT hf_180.2.1 hin_181 trivial dX12_game_124 (fun A_182 H locs hE_182 hT hP hS => ?_)
                      have FA := frA FA (frAu hE_182) (by decide)
                      refine lv_aload_n hx hb dX12_game_125 rfl (lv_at hl 2 rfl) ?_
                      refine mg_5 C hs hP ha0 hk0 wf_X12_27 dX12_game_126 ?_
                      have hf_183 := hO.r (j := 5) ha0 hk0 (rfl : zX 11 5 = some (45, 6))
                      refine lv_iload_n hx hb dX12_game_129 rfl (lv_at hl 3 rfl) ?_
                      refine lv_iload hx hb dX12_game_130 (lv_at hl 0 rfl) ?_
                      have hin_184 : vp_in x1 (zn K (zr K a0 5)) := vp_in_iff.mpr (by rw [(hf_183.2.2 (by decide))]; refine ⟨?_, ?_⟩ <;> omega)
                      refine mst_45 C hM hs hP hS hf_183.1 hT hf_183.2.1 hin_184 trivial dX12_game_132 (fun A_185 H locs hE_185 hT hP hS => ?_)
                      have FA := frA FA (frAu hE_185) (by decide)
                      refine lv_iconst (v := 1) hx hb dX12_game_133 (by decide) ?_
                      have eu_186 : A_185 43 = upd (A 43) (x1.toNatClampNeg) x2 := by rw [hE_185, va_up_ne _ _ (show 43 ≠ 45 by decide), hE_182, va_up_ne _ _ (show 43 ≠ 44 by decide), hE_179, va_up_self]
                      exact maI hQ hx hb hr hlk hP hS ⟨hT, FA, FF, ⟨Or.inr (Or.inr (Or.inr ⟨(fun h => by rcases h with h | ⟨h1, h2 | h2⟩ <;> first | omega | contradiction | (exact absurd (And.left (by assumption)) h2)), (fun h => by unfold gC2 at h; omega), (fun h => by rcases h with ⟨h1, h2 | h2⟩ <;> omega), ti_1⟩)), fun _ => eu_186, fun h9 => absurd ti_1 h9⟩⟩ dX12_game_134
                  · skip
                    refine lv_aload_n hx hb dX12_game_80 rfl (lv_at hl 0 rfl) ?_
                    refine mg_3 C hs hP ha0 hk0 wf_X12_21 dX12_game_81 ?_
                    refine lv_iload_n hx hb dX12_game_84 rfl (lv_at hl 3 rfl) ?_
                    have hin_187 : vp_in x3 (zn K (zr K a0 3)) := vp_in_iff.mpr (by rw [(hf_161.2.2 (by decide))]; refine ⟨?_, ?_⟩ <;> omega)
                    refine mld_43 C hs hP hf_161.1 hf_161.2.1 hin_187 dX12_game_85 ?_
                    refine lv_goto (tgt := 90) hx hb dX12_game_86 (by decide) ?_
                    refine lv_istore (lv' := [(5, .int (A 43 x3.toNatClampNeg)), (0, .ref a0), (1, .int x1), (2, .int x2), (3, .int x3), (4, .int x4)]) hx hb dX12_game_90 hl (by decide) rfl (fun ls hl => ?_)
                    refine lv_iload_n hx hb dX12_game_92 rfl (lv_at hl 3 rfl) ?_
                    refine lv_iconst (v := 4) hx hb dX12_game_93 (by decide) ?_
                    refine bi_ne (tgt := 107) hx hb rfl ti_4 dX12_game_94 (by decide) (fun c_188 => ?_) (fun c_188 => ?_)
                    · skip
                      refine lv_iload_n hx hb dX12_game_107 rfl (lv_at hl 3 rfl) ?_
                      refine lv_istore (lv' := [(6, .int x2), (5, .int (A 43 x3.toNatClampNeg)), (0, .ref a0), (1, .int x1), (2, .int x2), (3, .int x3), (4, .int x4)]) hx hb dX12_game_108 hl (by decide) rfl (fun ls hl => ?_)
                      refine lv_aload_n hx hb dX12_game_110 rfl (lv_at hl 2 rfl) ?_
                      refine mg_3 C hs hP ha0 hk0 wf_X12_21 dX12_game_111 ?_
                      refine lv_iload_n hx hb dX12_game_114 rfl (lv_at hl 3 rfl) ?_
                      refine lv_iload_n hx hb dX12_game_115 rfl (lv_at hl 4 rfl) ?_
                      have hin_189 : vp_in x1 (zn K (zr K a0 3)) := vp_in_iff.mpr (by rw [(hf_161.2.2 (by decide))]; refine ⟨?_, ?_⟩ <;> omega)
                      refine mst_43 C hM hs hP hS hf_161.1 hT hf_161.2.1 hin_189 trivial dX12_game_116 (fun A_190 H locs hE_190 hT hP hS => ?_)
                      have FA := frA FA (frAu hE_190) (by decide)
                      refine lv_aload_n hx hb dX12_game_117 rfl (lv_at hl 2 rfl) ?_
                      refine mg_4 C hs hP ha0 hk0 wf_X12_24 dX12_game_118 ?_
                      have hf_191 := hO.r (j := 4) ha0 hk0 (rfl : zX 11 4 = some (44, 6))
                      refine lv_iload_n hx hb dX12_game_121 rfl (lv_at hl 3 rfl) ?_
                      refine lv_iload hx hb dX12_game_122 (lv_at hl 1 rfl) ?_
                      have hin_192 : vp_in x1 (zn K (zr K a0 4)) := vp_in_iff.mpr (by rw [(hf_191.2.2 (by decide))]; refine ⟨?_, ?_⟩ <;> omega)
                      refine mst_44 C hM hs hP hS hf_191.1 hT hf_191.2.1 hin_192 trivial dX12_game_124 (fun A_193 H locs hE_193 hT hP hS => ?_)
                      have FA := frA FA (frAu hE_193) (by decide)
                      refine lv_aload_n hx hb dX12_game_125 rfl (lv_at hl 2 rfl) ?_
                      refine mg_5 C hs hP ha0 hk0 wf_X12_27 dX12_game_126 ?_
                      have hf_194 := hO.r (j := 5) ha0 hk0 (rfl : zX 11 5 = some (45, 6))
                      refine lv_iload_n hx hb dX12_game_129 rfl (lv_at hl 3 rfl) ?_
                      refine lv_iload hx hb dX12_game_130 (lv_at hl 0 rfl) ?_
                      have hin_195 : vp_in x1 (zn K (zr K a0 5)) := vp_in_iff.mpr (by rw [(hf_194.2.2 (by decide))]; refine ⟨?_, ?_⟩ <;> omega)
                      refine mst_45 C hM hs hP hS hf_194.1 hT hf_194.2.1 hin_195 trivial dX12_game_132 (fun A_196 H locs hE_196 hT hP hS => ?_)
                      have FA := frA FA (frAu hE_196) (by decide)
                      refine lv_iconst (v := 1) hx hb dX12_game_133 (by decide) ?_
                      have eu_197 : A_196 43 = upd (A 43) (x1.toNatClampNeg) x2 := by rw [hE_196, va_up_ne _ _ (show 43 ≠ 45 by decide), hE_193, va_up_ne _ _ (show 43 ≠ 44 by decide), hE_190, va_up_self]
                      exact maI hQ hx hb hr hlk hP hS ⟨hT, FA, FF, ⟨Or.inr (Or.inr (Or.inr ⟨(fun h => by rcases h with h | ⟨h1, h2 | h2⟩ <;> first | omega | contradiction | (exact absurd (And.left (by assumption)) h2)), (fun h => by unfold gC2 at h; omega), (fun h => by rcases h with ⟨h1, h2 | h2⟩ <;> omega), ti_1⟩)), fun _ => eu_197, fun h9 => absurd ti_1 h9⟩⟩ dX12_game_134
                    · skip
                      refine lv_aload_n hx hb dX12_game_97 rfl (lv_at hl 1 rfl) ?_
                      refine mg_3 C hs hP ha0 hk0 wf_X12_21 dX12_game_98 ?_
                      refine lv_iload hx hb dX12_game_101 (lv_at hl 5 rfl) ?_
                      have hin_198 : vp_in x4 (zn K (zr K a0 3)) := vp_in_iff.mpr (by rw [(hf_161.2.2 (by decide))]; refine ⟨?_, ?_⟩ <;> omega)
                      refine mld_43 C hs hP hf_161.1 hf_161.2.1 hin_198 dX12_game_103 ?_
                      refine lv_goto (tgt := 108) hx hb dX12_game_104 (by decide) ?_
                      refine lv_istore (lv' := [(6, .int (A 43 x4.toNatClampNeg)), (5, .int (A 43 x3.toNatClampNeg)), (0, .ref a0), (1, .int x1), (2, .int x2), (3, .int x3), (4, .int x4)]) hx hb dX12_game_108 hl (by decide) rfl (fun ls hl => ?_)
                      refine lv_aload_n hx hb dX12_game_110 rfl (lv_at hl 2 rfl) ?_
                      refine mg_3 C hs hP ha0 hk0 wf_X12_21 dX12_game_111 ?_
                      refine lv_iload_n hx hb dX12_game_114 rfl (lv_at hl 3 rfl) ?_
                      refine lv_iload_n hx hb dX12_game_115 rfl (lv_at hl 4 rfl) ?_
                      have hin_199 : vp_in x1 (zn K (zr K a0 3)) := vp_in_iff.mpr (by rw [(hf_161.2.2 (by decide))]; refine ⟨?_, ?_⟩ <;> omega)
                      refine mst_43 C hM hs hP hS hf_161.1 hT hf_161.2.1 hin_199 trivial dX12_game_116 (fun A_200 H locs hE_200 hT hP hS => ?_)
                      have FA := frA FA (frAu hE_200) (by decide)
                      refine lv_aload_n hx hb dX12_game_117 rfl (lv_at hl 2 rfl) ?_
                      refine mg_4 C hs hP ha0 hk0 wf_X12_24 dX12_game_118 ?_
                      have hf_201 := hO.r (j := 4) ha0 hk0 (rfl : zX 11 4 = some (44, 6))
                      refine lv_iload_n hx hb dX12_game_121 rfl (lv_at hl 3 rfl) ?_
                      refine lv_iload hx hb dX12_game_122 (lv_at hl 1 rfl) ?_
                      have hin_202 : vp_in x1 (zn K (zr K a0 4)) := vp_in_iff.mpr (by rw [(hf_201.2.2 (by decide))]; refine ⟨?_, ?_⟩ <;> omega)
                      refine mst_44 C hM hs hP hS hf_201.1 hT hf_201.2.1 hin_202 trivial dX12_game_124 (fun A_203 H locs hE_203 hT hP hS => ?_)
                      have FA := frA FA (frAu hE_203) (by decide)
                      refine lv_aload_n hx hb dX12_game_125 rfl (lv_at hl 2 rfl) ?_
                      refine mg_5 C hs hP ha0 hk0 wf_X12_27 dX12_game_126 ?_
                      have hf_204 := hO.r (j := 5) ha0 hk0 (rfl : zX 11 5 = some (45, 6))
                      refine lv_iload_n hx hb dX12_game_129 rfl (lv_at hl 3 rfl) ?_
                      refine lv_iload hx hb dX12_game_130 (lv_at hl 0 rfl) ?_
                      have hin_205 : vp_in x1 (zn K (zr K a0 5)) := vp_in_iff.mpr (by rw [(hf_204.2.2 (by decide))]; refine ⟨?_, ?_⟩ <;> omega)
                      refine mst_45 C hM hs hP hS hf_204.1 hT hf_204.2.1 hin_205 trivial dX12_game_132 (fun A_206 H locs hE_206 hT hP hS => ?_)
                      have FA := frA FA (frAu hE_206) (by decide)
                      refine lv_iconst (v := 1) hx hb dX12_game_133 (by decide) ?_
                      have eu_207 : A_206 43 = upd (A 43) (x1.toNatClampNeg) x2 := by rw [hE_206, va_up_ne _ _ (show 43 ≠ 45 by decide), hE_203, va_up_ne _ _ (show 43 ≠ 44 by decide), hE_200, va_up_self]
                      exact maI hQ hx hb hr hlk hP hS ⟨hT, FA, FF, ⟨Or.inr (Or.inr (Or.inr ⟨(fun h => by rcases h with h | ⟨h1, h2 | h2⟩ <;> first | omega | contradiction | (exact absurd (And.left (by assumption)) h2)), (fun h => by unfold gC2 at h; omega), (fun h => by rcases h with ⟨h1, h2 | h2⟩ <;> omega), ti_1⟩)), fun _ => eu_207, fun h9 => absurd ti_1 h9⟩⟩ dX12_game_134
                · skip
                  refine lv_bipush (v := (-4)) hx hb dX12_game_72 (by decide) ?_
                  exact maI hQ hx hb hr hlk hP hS ⟨hT, FA, FF, ⟨Or.inr (Or.inr (Or.inl ⟨(fun h => by rcases h with h | ⟨h1, h2 | h2⟩ <;> first | omega | contradiction | (exact absurd (And.left (by assumption)) h2)), (fun h => by unfold gC2 at h; omega), by first | exact ⟨by omega, Or.inl (by omega)⟩ | exact ⟨by omega, Or.inr (by omega)⟩, ti_m4⟩)), fun h9 => absurd h9 (by rw [ti_m4]; decide), fun _ => rfl⟩⟩ dX12_game_74
          · skip
            replace pp_112 := pp_112.2 c_114
            refine lv_bipush (v := (-3)) hx hb dX12_game_43 (by decide) ?_
            exact maI hQ hx hb hr hlk hP hS ⟨hT, FA, FF, ⟨Or.inr (Or.inl ⟨(fun h => by rcases h with h | ⟨h1, h2 | h2⟩ <;> first | omega | contradiction | (exact absurd (And.left (by assumption)) h2)), by unfold gC2; omega, ti_m3⟩), fun h9 => absurd h9 (by rw [ti_m3]; decide), fun _ => rfl⟩⟩ dX12_game_45
        · skip
          replace pp_109 := pp_109.2 c_111
          refine lv_bipush (v := (-2)) hx hb dX12_game_31 (by decide) ?_
          exact maI hQ hx hb hr hlk hP hS ⟨hT, FA, FF, ⟨Or.inl ⟨by first | exact Or.inl (by omega) | exact Or.inr ⟨by omega, Or.inl (by assumption)⟩ | exact Or.inr ⟨by omega, Or.inr (by assumption)⟩, ti_m2⟩, fun h9 => absurd h9 (by rw [ti_m2]; decide), fun _ => rfl⟩⟩ dX12_game_33
