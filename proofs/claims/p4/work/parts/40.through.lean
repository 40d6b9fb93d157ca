set_option maxHeartbeats 4000000 in
set_option maxRecDepth 100000 in
theorem c_X12_goThrough (l : Launch) (D : va_G) (K : zK) (hM : mK K) (f : Nat → Int32) (A : Nat → Nat → Int32) (hT : mT f A) (a0 : Nat) (ha0 : a0 ∈ zl K) (hk0 : zk K a0 = 11) (x1 : Int32) (x2 : Int32) (hp0 : zRow x1.toInt) (hp1 : 0 ≤ x2.toInt ∧ x2.toInt < (f 27).toInt) (hp2 : (f 16).toInt = x2.toInt) (hp3 : (f 12).toInt ≠ 0) (hp4 : (f 11).toInt ≤ 1970000000) : Met l yX12_goThrough (zc yX12_goThrough cX12_goThrough 11 none) (rmd 4) (va_Pc [.ref a0, .int x1, .int x2] (zB D K (mV K f A))) (mQv D K (fun f' A' => mT f' A' ∧ (∀ k, k ∉ ([50, 53, 55, 69, 70, 71, 72, 73] : List Nat) → A' k = A k) ∧ (∀ k, k ∉ ([11, 14, 16, 28, 34, 35] : List Nat) → f' k = f k) ∧ (f 11).toInt ≤ (f' 11).toInt ∧ (f' 11).toInt ≤ (f 11).toInt + 0 ∧ ((f 12).toInt ≠ 0 → (f' 11).toInt = (f 11).toInt) ∧ (f' 16).toInt = x2.toInt)) 0 0 (zA K) := by
  refine zin (by decide) (Nat.le_of_ble_eq_true rfl) ?_
  intro p e s m args below meth c ls Q hQ C hr hlk hP hs hl
  have C : CallFix p m c cX12_goThrough 11 s args zw RX12 := C
  obtain ⟨hx, hb, hml, hown, hts⟩ := id C
  have hO := hM.1
  have hS : va_S (zA K) s.heap s.heap [] := va_S.rf
  have FA : ∀ k, k ∉ ([50, 53, 55, 69, 70, 71, 72, 73] : List Nat) → A k = A k := fun _ _ => rfl
  have FF : ∀ k, k ∉ ([11, 14, 16, 28, 34, 35] : List Nat) → f k = f k := fun _ _ => rfl
  have hl : lv_has ls 11 [(0, .ref a0), (1, .int x1), (2, .int x2)] := hl
  have hb0 := hp0.lin
  have hs27 : 0 ≤ (f 27).toInt ∧ (f 27).toInt ≤ 4 := hT.1 27
  refine lv_aload_n hx hb dX12_goThrough_0 rfl (lv_at hl 0 rfl) ?_
  refine lv_iload_n hx hb dX12_goThrough_1 rfl (lv_at hl 2 rfl) ?_
  refine mp_35 C hM hs hP hS ha0 hT hk0 wf_X12_265 trivial dX12_goThrough_2 (fun f_1 H locs hE_1 hT hP hS => ?_)
  have FF := frF FF (frFu hE_1) (by decide)
  refine lv_iload_n hx hb dX12_goThrough_5 rfl (lv_at hl 2 rfl) ?_
  refine lv_istore_n (lv' := [(3, .int x2), (0, .ref a0), (1, .int x1), (2, .int x2)]) hx hb dX12_goThrough_6 rfl hl (by decide) rfl (fun ls hl => ?_)
  refine lv_aload_n hx hb dX12_goThrough_7 rfl (lv_at hl 1 rfl) ?_
  refine mg_31 C hs hP ha0 hk0 wf_X12_69 dX12_goThrough_8 ?_
  have hf_2 := hO.r (j := 31) ha0 hk0 (rfl : zX 11 31 = some (71, 4))
  refine lv_iload_n hx hb dX12_goThrough_11 rfl (lv_at hl 0 rfl) ?_
  refine lv_iconst (v := 0) hx hb dX12_goThrough_12 (by decide) ?_
  have g_4 := z_rng x2
  have hin_3 : vp_in x2 (zn K (zr K a0 31)) := vp_in_iff.mpr (by rw [(hf_2.2.2 (by decide))]; refine ⟨?_, ?_⟩ <;> omega)
  have hw_5 : vp_nar .boolean 0 = 0 := by decide +kernel
  refine mst_71 C hM hs hP hS hf_2.1 hT hf_2.2.1 hin_3 (by rw [hw_5]; show 0 ≤ (0 : Int32).toInt ∧ (0 : Int32).toInt ≤ 1; rw [ti_0]; omega) dX12_goThrough_13 (fun A_5 H locs hE_5 hT hP hS => ?_)
  rw [hw_5] at hE_5
  have FA := frA FA (frAu hE_5) (by decide)
  refine lv_aload_n hx hb dX12_goThrough_14 rfl (lv_at hl 1 rfl) ?_
  refine mg_29 C hs hP ha0 hk0 wf_X12_63 dX12_goThrough_15 ?_
  have hf_6 := hO.r (j := 29) ha0 hk0 (rfl : zX 11 29 = some (69, 4))
  refine lv_iload_n hx hb dX12_goThrough_18 rfl (lv_at hl 0 rfl) ?_
  refine lv_iconst (v := 0) hx hb dX12_goThrough_19 (by decide) ?_
  have hin_7 : vp_in x2 (zn K (zr K a0 29)) := vp_in_iff.mpr (by rw [(hf_6.2.2 (by decide))]; refine ⟨?_, ?_⟩ <;> omega)
  refine mst_69 C hM hs hP hS hf_6.1 hT hf_6.2.1 hin_7 (show 0 ≤ (0 : Int32).toInt ∧ (0 : Int32).toInt ≤ 4 from by rw [ti_0]; omega) dX12_goThrough_20 (fun A_8 H locs hE_8 hT hP hS => ?_)
  have FA := frA FA (frAu hE_8) (by decide)
  refine lv_iconst (v := 1) hx hb dX12_goThrough_21 (by decide) ?_
  refine lv_istore (lv' := [(4, .int 1), (3, .int x2), (0, .ref a0), (1, .int x1), (2, .int x2)]) hx hb dX12_goThrough_22 hl (by decide) rfl (fun ls hl => ?_)
  have L_24_11 : ∀ (n_11 : Nat) (f_12 : Nat → Int32) (A_12 : Nat → Nat → Int32) (H : Heap) (locs : List Loc) (y_9 : Int32) (y_10 : Int32) (ls : Array Slot), (if y_9.toInt = 0 then 0 else gM (A_12 69) x2.toInt y_10.toInt + 1) < n_11 → (y_9 = 0 ∨ y_9 = 1) → x2.toInt ≤ y_10.toInt → y_10.toInt < (f 27).toInt → (f_12 16).toInt = y_10.toInt → (y_9.toInt = 0 → y_10.toInt = x2.toInt) → ((f 11).toInt ≤ (f_12 11).toInt ∧ (f_12 11).toInt ≤ (f 11).toInt + 0 ∧ ((f 12).toInt ≠ 0 → (f_12 11).toInt = (f 11).toInt)) → (∀ k, k ∉ ([50, 53, 55, 69, 70, 71, 72, 73] : List Nat) → A_12 k = A k) → (∀ k, k ∉ ([11, 14, 16, 28, 34, 35] : List Nat) → f_12 k = f k) → mT f_12 A_12 → va_P D vwCl (zW K (mV K f_12 A_12)) H → va_S (zA K) s.heap H locs → lv_has ls 11 [(4, .int y_9), (3, .int y_10), (0, .ref a0), (1, .int x1), (2, .int x2)] → W p l e (rmd 4) s m args below meth c H locs 0 0 Q (F0 m 24 ls []) := by
    intro n_11
    induction n_11 with
    | zero => intro f_12 A_12 H locs y_9 y_10 ls hm_11; exact absurd hm_11 (Nat.not_lt_zero _)
    | succ n_11 ih_11 =>
      intro f_12 A_12 H locs y_9 y_10 ls hm_11 hb_y_9 iv_12_0 iv_12_1 iv_12_2 iv_12_3 iv_12_4 FA_12 FF_12 hT hP hS hl
      have FA := FA_12
      have FF := FF_12
      have hT4 : ∀ j, j < 4 → 0 ≤ (A_12 69 j).toInt ∧ (A_12 69 j).toInt ≤ 4 := fun j hj => hT.2 69 j hj
      refine lv_iload hx hb dX12_goThrough_24 (lv_at hl 0 rfl) ?_
      refine bz_eq (tgt := 308) hx hb rfl dX12_goThrough_26 (by decide) (fun c_14 => ?_) (fun c_14 => ?_)
      · skip
        exact maV hQ hx hb hr hlk hP hS ⟨hT, FA, FF, (by (try dsimp only); (first | omega | (intro h9; omega) | (simp; done) | (refine ⟨?_, ?_⟩ <;> intros <;> first | trivial | omega) | (refine ⟨?_, ?_, ?_⟩ <;> intros <;> first | trivial | omega)))⟩ dX12_goThrough_308
      · skip
        refine lv_aload_n hx hb dX12_goThrough_29 rfl (lv_at hl 2 rfl) ?_
        refine lv_iload_n hx hb dX12_goThrough_30 rfl (lv_at hl 3 rfl) ?_
        refine lv_iload_n hx hb dX12_goThrough_31 rfl (lv_at hl 1 rfl) ?_
        have g_15 := z_rng x1
        have g_16 := z_rng y_10
        have hq_17 : 0 ≤ y_10.toInt ∧ y_10.toInt ≤ 3 := by (first | assumption | omega | (intros; omega))
        have ev_19 : f_12 12 = f 12 := by rw [FF_12 12 (by decide)]
        have hq_18 : (f_12 12).toInt ≠ 0 := by rw [ev_19] <;> (first | assumption | omega | (intros; omega))
        have hq_20 : (f_12 11).toInt ≤ 1980000000 := by (first | assumption | omega | (intros; omega))
        refine mcI (zrV (As := [.int x1, .int y_10]) (b := a0) (rest := []) C hs hP hS (c_X12_nextPlace l D K hM f_12 A_12 hT a0 ha0 hk0 x1 y_10 hp0 hq_17 hq_18 hq_20) m_X12_nextPlace wm_X12_271 (zrecv hs hP ha0 (zF_11 hk0) rfl) ⟨by decide, by decide⟩ hl.1 (Nat.le_of_ble_eq_true rfl) dX12_goThrough_32) hS (fun x_21 f_21 A_21 H locs p_21 hP hS => ?_)
        obtain ⟨hT, hA_21, hF_21, pp_21⟩ := p_21
        have pp_21 : (f_12 11).toInt ≤ (f_21 11).toInt ∧ (f_21 11).toInt ≤ (f_12 11).toInt + 0 ∧ ((f_12 12).toInt ≠ 0 → (f_21 11).toInt = (f_12 11).toInt) ∧ 0 ≤ x_21.toInt ∧ (A_12 69 y_10.toNatClampNeg).toInt ≤ x_21.toInt ∧ x_21.toInt ≤ 4 := pp_21
        have ev_22 : f_12 12 = f 12 := by rw [FF_12 12 (by decide)]
        rw [ev_22] at pp_21
        have FA := frA FA hA_21 (by decide)
        have FF := frF FF hF_21 (by decide)
        refine lv_istore (lv' := [(5, .int x_21), (4, .int y_9), (3, .int y_10), (0, .ref a0), (1, .int x1), (2, .int x2)]) hx hb dX12_goThrough_35 hl (by decide) rfl (fun ls hl => ?_)
        refine lv_iload hx hb dX12_goThrough_37 (lv_at hl 0 rfl) ?_
        refine lv_iconst (v := 4) hx hb dX12_goThrough_39 (by decide) ?_
        refine bi_ge (tgt := 261) hx hb rfl ti_4 dX12_goThrough_40 (by decide) (fun c_23 => ?_) (fun c_23 => ?_)
        · skip
          refine lv_iload_n hx hb dX12_goThrough_261 rfl (lv_at hl 2 rfl) ?_
          refine lv_iload_n hx hb dX12_goThrough_262 rfl (lv_at hl 5 rfl) ?_
          refine bi_ne (tgt := 272) hx hb rfl rfl dX12_goThrough_263 (by decide) (fun c_24 => ?_) (fun c_24 => ?_)
          · skip
            refine lv_aload_n hx hb dX12_goThrough_272 rfl (lv_at hl 3 rfl) ?_
            refine mg_32 C hs hP ha0 hk0 wf_X12_72 dX12_goThrough_273 ?_
            have hf_25 := hO.r (j := 32) ha0 hk0 (rfl : zX 11 32 = some (72, 4))
            refine lv_iload_n hx hb dX12_goThrough_276 rfl (lv_at hl 2 rfl) ?_
            have hin_26 : vp_in y_10 (zn K (zr K a0 32)) := vp_in_iff.mpr (by rw [(hf_25.2.2 (by decide))]; refine ⟨?_, ?_⟩ <;> omega)
            refine mld_72 C hs hP hf_25.1 hf_25.2.1 hin_26 dX12_goThrough_277 ?_
            have ev_27 : A_21 72 y_10.toNatClampNeg = A_12 72 y_10.toNatClampNeg := by rw [hA_21 72 (by decide)]
            rw [ev_27]
            refine lv_istore (lv' := [(6, .int (A_12 72 y_10.toNatClampNeg)), (5, .int x_21), (4, .int y_9), (3, .int y_10), (0, .ref a0), (1, .int x1), (2, .int x2)]) hx hb dX12_goThrough_278 hl (by decide) rfl (fun ls hl => ?_)
            refine lv_aload_n hx hb dX12_goThrough_280 rfl (lv_at hl 4 rfl) ?_
            refine mg_33 C hs hP ha0 hk0 wf_X12_75 dX12_goThrough_281 ?_
            have hf_28 := hO.r (j := 33) ha0 hk0 (rfl : zX 11 33 = some (73, 4))
            refine lv_iload_n hx hb dX12_goThrough_284 rfl (lv_at hl 3 rfl) ?_
            have hin_29 : vp_in y_10 (zn K (zr K a0 33)) := vp_in_iff.mpr (by rw [(hf_28.2.2 (by decide))]; refine ⟨?_, ?_⟩ <;> omega)
            refine mld_73 C hs hP hf_28.1 hf_28.2.1 hin_29 dX12_goThrough_285 ?_
            have ev_30 : A_21 73 y_10.toNatClampNeg = A_12 73 y_10.toNatClampNeg := by rw [hA_21 73 (by decide)]
            rw [ev_30]
            refine lv_istore (lv' := [(7, .int (A_12 73 y_10.toNatClampNeg)), (6, .int (A_12 72 y_10.toNatClampNeg)), (5, .int x_21), (4, .int y_9), (3, .int y_10), (0, .ref a0), (1, .int x1), (2, .int x2)]) hx hb dX12_goThrough_286 hl (by decide) rfl (fun ls hl => ?_)
            obtain ⟨x_31, ex_31⟩ : ∃ y : Int32, y = y_10 + (-1) := ⟨_, rfl⟩
            refine lv_iinc (v := x_31) (lv' := [(3, .int x_31), (7, .int (A_12 73 y_10.toNatClampNeg)), (6, .int (A_12 72 y_10.toNatClampNeg)), (5, .int x_21), (4, .int y_9), (0, .ref a0), (1, .int x1), (2, .int x2)]) hx hb dX12_goThrough_288 hl (k := 4) rfl (by rw [ex_31]; rfl) (by decide) rfl (fun ls hl => ?_)
            refine lv_aload_n hx hb dX12_goThrough_291 rfl (lv_at hl 5 rfl) ?_
            refine lv_iload_n hx hb dX12_goThrough_292 rfl (lv_at hl 0 rfl) ?_
            obtain ⟨f_31, l_31, u_31⟩ := z_add ex_31 rfl ti_m1
            try replace f_31 : x_31.toInt = y_10.toInt + (-1) := by omega
            clear l_31 u_31
            have hq_32 : 0 ≤ x_31.toInt ∧ x_31.toInt ≤ 3 := by (first | assumption | omega | (intros; omega))
            have ev_34 : f_21 16 = f_12 16 := by rw [hF_21 16 (by decide)]
            have hq_33 : 1 ≤ (f_21 16).toInt := by rw [ev_34] <;> (first | assumption | omega | (intros; omega))
            refine mcV (zrV (As := [.int x_31]) (b := a0) (rest := []) C hs hP hS (c_X12_takeUp l D K hM f_21 A_21 hT a0 ha0 hk0 x_31 hq_32 hq_33) m_X12_takeUp wm_X12_277 (zrecv hs hP ha0 (zF_11 hk0) rfl) ⟨by decide, by decide⟩ hl.1 (Nat.le_of_ble_eq_true rfl) dX12_goThrough_293) hS (fun f_35 A_35 H locs p_35 hP hS => ?_)
            obtain ⟨hT, hA_35, hF_35, pp_35⟩ := p_35
            have pp_35 : (f_35 16).toInt = (f_21 16).toInt - 1 := pp_35
            have ev_36 : f_21 16 = f_12 16 := by rw [hF_21 16 (by decide)]
            rw [ev_36] at pp_35
            have FA := frA FA hA_35 (by decide)
            have FF := frF FF hF_35 (by decide)
            refine lv_aload_n hx hb dX12_goThrough_296 rfl (lv_at hl 5 rfl) ?_
            refine lv_iload_n hx hb dX12_goThrough_297 rfl (lv_at hl 0 rfl) ?_
            refine lv_iload hx hb dX12_goThrough_298 (lv_at hl 2 rfl) ?_
            refine lv_iload hx hb dX12_goThrough_300 (lv_at hl 1 rfl) ?_
            have g_37 := z_rng (A_12 72 y_10.toNatClampNeg)
            have g_38 := z_rng (A_12 73 y_10.toNatClampNeg)
            have hq_39 : 0 ≤ x_31.toInt ∧ x_31.toInt ≤ 3 := by (first | assumption | omega | (intros; omega))
            refine mcV (zrV (As := [.int x_31, .int (A_12 72 y_10.toNatClampNeg), .int (A_12 73 y_10.toNatClampNeg)]) (b := a0) (rest := []) C hs hP hS (c_X12_rate l D K hM f_35 A_35 hT a0 ha0 hk0 x_31 (A_12 72 y_10.toNatClampNeg) (A_12 73 y_10.toNatClampNeg) hq_39) m_X12_rate wm_X12_280 (zrecv hs hP ha0 (zF_11 hk0) rfl) ⟨by decide, by decide⟩ hl.1 (Nat.le_of_ble_eq_true rfl) dX12_goThrough_302) hS (fun f_40 A_40 H locs p_40 hP hS => ?_)
            obtain ⟨hT, hA_40, hF_40⟩ := p_40
            have FA := frA FA hA_40 (by decide)
            have FF := frF FF hF_40 (by decide)
            refine lv_goto (tgt := 24) hx hb dX12_goThrough_305 (by decide) ?_
            have g_41 := z_rng y_9
            have g_42 := z_rng x_21
            have eu_43 : A_40 69 = A_12 69 := by rw [hA_40 69 (by decide), hA_35 69 (by decide), hA_21 69 (by decide)]
            have hg_44 : gM (A_12 69) x2.toInt x_31.toInt < gM (A_12 69) x2.toInt y_10.toInt := by rw [show x_31.toInt = y_10.toInt - 1 by omega]; exact gM_pop (T := A_12 69) (level := y_10.toInt) hT4 ⟨by omega, by omega, by omega⟩
            have ev_45 : f_40 16 = f_35 16 := by rw [hF_40 16 (by decide)]
            have ev_46 : f_40 11 = f_21 11 := by rw [hF_40 11 (by decide), hF_35 11 (by decide)]
            exact ih_11 f_40 A_40 _ _ y_9 x_31 _ (by have h9 := hm_11; rw [if_neg c_14] at h9 ⊢; rw [eu_43]; have h8 := hg_44; omega) hb_y_9 (by omega) (by omega) (by rw [ev_45] <;> omega) (fun h9 => by omega) (by rw [ev_46] <;> omega) FA FF hT hP hS (lv_sub hl [4, 0, 5, 6, 7] rfl)
          · skip
            refine lv_iconst (v := 0) hx hb dX12_goThrough_266 (by decide) ?_
            refine lv_istore (lv' := [(4, .int 0), (5, .int x_21), (3, .int y_10), (0, .ref a0), (1, .int x1), (2, .int x2)]) hx hb dX12_goThrough_267 hl (by decide) rfl (fun ls hl => ?_)
            refine lv_goto (tgt := 305) hx hb dX12_goThrough_269 (by decide) ?_
            refine lv_goto (tgt := 24) hx hb dX12_goThrough_305 (by decide) ?_
            have g_47 := z_rng x_21
            have g_48 := z_rng y_9
            have ev_49 : f_21 16 = f_12 16 := by rw [hF_21 16 (by decide)]
            exact ih_11 f_21 A_21 _ _ 0 y_10 _ (by have h9 := hm_11; rw [if_neg c_14] at h9; rw [if_pos ti_0]; omega) (Or.inl rfl) (by omega) (by omega) (by rw [ev_49] <;> omega) (fun h9 => by omega) (by omega) FA FF hT hP hS (lv_sub hl [0, 2, 3, 4, 5] rfl)
        · skip
          refine lv_aload_n hx hb dX12_goThrough_43 rfl (lv_at hl 3 rfl) ?_
          refine mg_26 C hs hP ha0 hk0 wf_X12_60 dX12_goThrough_44 ?_
          have hf_50 := hO.r (j := 26) ha0 hk0 (rfl : zX 11 26 = some (66, 4))
          refine lv_iload_n hx hb dX12_goThrough_47 rfl (lv_at hl 2 rfl) ?_
          have hin_51 : vp_in y_10 (zn K (zr K a0 26)) := vp_in_iff.mpr (by rw [(hf_50.2.2 (by decide))]; refine ⟨?_, ?_⟩ <;> omega)
          refine mld_66 C hs hP hf_50.1 hf_50.2.1 hin_51 dX12_goThrough_48 ?_
          have ev_52 : A_21 66 y_10.toNatClampNeg = A 66 y_10.toNatClampNeg := by rw [hA_21 66 (by decide), FA_12 66 (by decide)]
          have tv_53 := ra_66 hT (vp_in_iff.mp hin_51).1 (by have h7 := (vp_in_iff.mp hin_51).2; rw [(hf_50.2.2 (by decide))] at h7; exact h7)
          rw [ev_52] at tv_53
          rw [ev_52]
          refine lv_istore (lv' := [(6, .int (A 66 y_10.toNatClampNeg)), (5, .int x_21), (4, .int y_9), (3, .int y_10), (0, .ref a0), (1, .int x1), (2, .int x2)]) hx hb dX12_goThrough_49 hl (by decide) rfl (fun ls hl => ?_)
          refine lv_aload_n hx hb dX12_goThrough_51 rfl (lv_at hl 4 rfl) ?_
          refine mg_30 C hs hP ha0 hk0 wf_X12_66 dX12_goThrough_52 ?_
          have hf_54 := hO.r (j := 30) ha0 hk0 (rfl : zX 11 30 = some (70, 4))
          refine lv_iload_n hx hb dX12_goThrough_55 rfl (lv_at hl 3 rfl) ?_
          refine lv_iload hx hb dX12_goThrough_56 (lv_at hl 1 rfl) ?_
          have hin_55 : vp_in y_10 (zn K (zr K a0 30)) := vp_in_iff.mpr (by rw [(hf_54.2.2 (by decide))]; refine ⟨?_, ?_⟩ <;> omega)
          have g_57 := z_rng x_21
          refine mst_70 C hM hs hP hS hf_54.1 hT hf_54.2.1 hin_55 (show 0 ≤ x_21.toInt ∧ x_21.toInt ≤ 3 from by omega) dX12_goThrough_58 (fun A_56 H locs hE_56 hT hP hS => ?_)
          have FA := frA FA (frAu hE_56) (by decide)
          refine lv_aload_n hx hb dX12_goThrough_59 rfl (lv_at hl 4 rfl) ?_
          refine mg_29 C hs hP ha0 hk0 wf_X12_63 dX12_goThrough_60 ?_
          refine lv_iload_n hx hb dX12_goThrough_63 rfl (lv_at hl 3 rfl) ?_
          refine lv_iload hx hb dX12_goThrough_64 (lv_at hl 1 rfl) ?_
          refine lv_iconst (v := 1) hx hb dX12_goThrough_66 (by decide) ?_
          refine lv_iadd hx hb dX12_goThrough_67 ?_
          refine lv_topi (fun x_58 ex_58 => ?_)
          have hin_59 : vp_in y_10 (zn K (zr K a0 29)) := vp_in_iff.mpr (by rw [(hf_6.2.2 (by decide))]; refine ⟨?_, ?_⟩ <;> omega)
          obtain ⟨f_58, l_58, u_58⟩ := z_add ex_58 rfl ti_1
          try replace f_58 : x_58.toInt = x_21.toInt + 1 := by omega
          clear l_58 u_58
          refine mst_69 C hM hs hP hS hf_6.1 hT hf_6.2.1 hin_59 (show 0 ≤ x_58.toInt ∧ x_58.toInt ≤ 4 from by omega) dX12_goThrough_68 (fun A_60 H locs hE_60 hT hP hS => ?_)
          have FA := frA FA (frAu hE_60) (by decide)
          refine lv_aload_n hx hb dX12_goThrough_69 rfl (lv_at hl 4 rfl) ?_
          refine lv_dup hx hb dX12_goThrough_70 rfl ?_
          refine mg_28 C hs hP ha0 hk0 wf_X12_256 dX12_goThrough_71 ?_
          have ev_61 : f_21 28 = f_12 28 := by rw [hF_21 28 (by decide)]
          rw [ev_61]
          have tf_62 : 0 ≤ (f_12 28).toInt ∧ (f_12 28).toInt ≤ 65535 := by rw [← ev_61]; exact hT.1 28
          refine lv_iconst (v := 1) hx hb dX12_goThrough_74 (by decide) ?_
          refine lv_iconst (v := 4) hx hb dX12_goThrough_75 (by decide) ?_
          refine lv_iload hx hb dX12_goThrough_76 (lv_at hl 0 rfl) ?_
          refine lv_imul hx hb dX12_goThrough_78 ?_
          refine lv_topi (fun x_63 ex_63 => ?_)
          refine lv_iload hx hb dX12_goThrough_79 (lv_at hl 1 rfl) ?_
          refine lv_iadd hx hb dX12_goThrough_81 ?_
          refine lv_topi (fun x_64 ex_64 => ?_)
          refine lv_ishl hx hb dX12_goThrough_82 ?_
          refine lv_topi (fun x_65 ex_65 => ?_)
          refine lv_iconst (v := (-1)) hx hb dX12_goThrough_83 (by decide) ?_
          refine lv_ixor hx hb dX12_goThrough_84 ?_
          refine lv_topi (fun x_66 ex_66 => ?_)
          refine lv_iand hx hb dX12_goThrough_85 ?_
          refine lv_topi (fun x_67 ex_67 => ?_)
          have g_69 := z_rng (f_12 28)
          have f_d67 := z_andL ex_67 rfl (by omega)
          refine mp_28 C hM hs hP hS ha0 hT hk0 wf_X12_256 (show 0 ≤ x_67.toInt ∧ x_67.toInt ≤ 65535 from by omega) dX12_goThrough_86 (fun f_68 H locs hE_68 hT hP hS => ?_)
          have FF := frF FF (frFu hE_68) (by decide)
          refine lv_aload_n hx hb dX12_goThrough_89 rfl (lv_at hl 4 rfl) ?_
          refine mg_15 C hs hP ha0 hk0 wf_X12_39 dX12_goThrough_90 ?_
          have hf_70 := hO.r (j := 15) ha0 hk0 (rfl : zX 11 15 = some (55, 4))
          refine lv_aload_n hx hb dX12_goThrough_93 rfl (lv_at hl 4 rfl) ?_
          refine mg_16 C hs hP ha0 hk0 wf_X12_127 dX12_goThrough_94 ?_
          have ev_71 : f_68 16 = f_12 16 := by rw [hE_68, pk_un (show 16 ≠ 28 by decide), hF_21 16 (by decide)]
          rw [ev_71]
          have tf_72 : 0 ≤ (f_12 16).toInt ∧ (f_12 16).toInt ≤ 4 := by rw [← ev_71]; exact hT.1 16
          refine lv_aload_n hx hb dX12_goThrough_97 rfl (lv_at hl 4 rfl) ?_
          refine mg_18 C hs hP ha0 hk0 wf_X12_42 dX12_goThrough_98 ?_
          have hf_73 := hO.r (j := 18) ha0 hk0 (rfl : zX 11 18 = some (58, 16))
          refine lv_iconst (v := 4) hx hb dX12_goThrough_101 (by decide) ?_
          refine lv_iload hx hb dX12_goThrough_102 (lv_at hl 0 rfl) ?_
          refine lv_imul hx hb dX12_goThrough_104 ?_
          refine lv_topi (fun x_74 ex_74 => ?_)
          refine lv_iload hx hb dX12_goThrough_105 (lv_at hl 1 rfl) ?_
          refine lv_iadd hx hb dX12_goThrough_107 ?_
          refine lv_topi (fun x_75 ex_75 => ?_)
          have g_77 := z_rng (A 66 y_10.toNatClampNeg)
          obtain ⟨f_74, l_74, u_74⟩ := z_mul ex_74 ti_4 rfl
          try replace f_74 : x_74.toInt = 4 * (A 66 y_10.toNatClampNeg).toInt := by omega
          clear l_74 u_74
          obtain ⟨f_75, l_75, u_75⟩ := z_add ex_75 rfl rfl
          try replace f_75 : x_75.toInt = x_74.toInt + x_21.toInt := by omega
          clear l_75 u_75
          have hin_76 : vp_in x_75 (zn K (zr K a0 18)) := vp_in_iff.mpr (by rw [(hf_73.2.2 (by decide))]; refine ⟨?_, ?_⟩ <;> omega)
          refine mld_58 C hs hP hf_73.1 hf_73.2.1 hin_76 dX12_goThrough_108 ?_
          have ev_78 : A_60 58 x_75.toNatClampNeg = A 58 x_75.toNatClampNeg := by rw [hE_60, va_up_ne _ _ (show 58 ≠ 69 by decide), hE_56, va_up_ne _ _ (show 58 ≠ 70 by decide), hA_21 58 (by decide), FA_12 58 (by decide)]
          have tv_79 := ra_58 hT (vp_in_iff.mp hin_76).1 (by have h7 := (vp_in_iff.mp hin_76).2; rw [(hf_73.2.2 (by decide))] at h7; exact h7)
          rw [ev_78] at tv_79
          rw [ev_78]
          have g_81 := z_rng (f_12 16)
          have hin_80 : vp_in (f_12 16) (zn K (zr K a0 15)) := vp_in_iff.mpr (by rw [(hf_70.2.2 (by decide))]; refine ⟨?_, ?_⟩ <;> omega)
          have g_83 := z_rng (A 58 x_75.toNatClampNeg)
          refine mst_55 C hM hs hP hS hf_70.1 hT hf_70.2.1 hin_80 (show 0 ≤ (A 58 x_75.toNatClampNeg).toInt ∧ (A 58 x_75.toNatClampNeg).toInt ≤ 59 from by omega) dX12_goThrough_109 (fun A_82 H locs hE_82 hT hP hS => ?_)
          have FA := frA FA (frAu hE_82) (by decide)
          refine lv_aload_n hx hb dX12_goThrough_110 rfl (lv_at hl 4 rfl) ?_
          refine lv_dup hx hb dX12_goThrough_111 rfl ?_
          refine mg_16 C hs hP ha0 hk0 wf_X12_127 dX12_goThrough_112 ?_
          have ev_84 : f_68 16 = f_12 16 := by rw [hE_68, pk_un (show 16 ≠ 28 by decide), hF_21 16 (by decide)]
          rw [ev_84]
          refine lv_iconst (v := 1) hx hb dX12_goThrough_115 (by decide) ?_
          refine lv_iadd hx hb dX12_goThrough_116 ?_
          refine lv_topi (fun x_85 ex_85 => ?_)
          obtain ⟨f_85, l_85, u_85⟩ := z_add ex_85 rfl ti_1
          try replace f_85 : x_85.toInt = (f_12 16).toInt + 1 := by omega
          clear l_85 u_85
          refine mp_16 C hM hs hP hS ha0 hT hk0 wf_X12_127 (show 0 ≤ x_85.toInt ∧ x_85.toInt ≤ 4 from by omega) dX12_goThrough_117 (fun f_86 H locs hE_86 hT hP hS => ?_)
          have FF := frF FF (frFu hE_86) (by decide)
          refine lv_iload_n hx hb dX12_goThrough_120 rfl (lv_at hl 3 rfl) ?_
          refine lv_iconst (v := 1) hx hb dX12_goThrough_121 (by decide) ?_
          refine lv_iadd hx hb dX12_goThrough_122 ?_
          refine lv_topi (fun x_87 ex_87 => ?_)
          refine lv_aload_n hx hb dX12_goThrough_123 rfl (lv_at hl 4 rfl) ?_
          refine mg_27 C hs hP ha0 hk0 wf_X12_253 dX12_goThrough_124 ?_
          have ev_88 : f_86 27 = f 27 := by rw [hE_86, pk_un (show 27 ≠ 16 by decide), hE_68, pk_un (show 27 ≠ 28 by decide), hF_21 27 (by decide), FF_12 27 (by decide)]
          rw [ev_88]
          have tf_89 : 0 ≤ (f 27).toInt ∧ (f 27).toInt ≤ 4 := by rw [← ev_88]; exact hT.1 27
          refine bi_ge (tgt := 150) hx hb rfl rfl dX12_goThrough_127 (by decide) (fun c_90 => ?_) (fun c_90 => ?_)
          · skip
            refine lv_aload_n hx hb dX12_goThrough_150 rfl (lv_at hl 4 rfl) ?_
            refine lv_iload_n hx hb dX12_goThrough_151 rfl (lv_at hl 5 rfl) ?_
            obtain ⟨f_87, l_87, u_87⟩ := z_add ex_87 rfl ti_1
            try replace f_87 : x_87.toInt = y_10.toInt + 1 := by omega
            clear l_87 u_87
            have ev_92 : f_86 16 = x_85 := by rw [hE_86, pk_us]
            have hq_91 : 1 ≤ (f_86 16).toInt := by rw [ev_92] <;> (first | assumption | omega | (intros; omega))
            have ev_94 : f_86 11 = f_21 11 := by rw [hE_86, pk_un (show 11 ≠ 16 by decide), hE_68, pk_un (show 11 ≠ 28 by decide)]
            have hq_93 : (f_86 11).toInt ≤ 1980000000 := by rw [ev_94] <;> (first | assumption | omega | (intros; omega))
            refine mcI (zrV (As := [.int x1]) (b := a0) (rest := []) C hs hP hS (c_X12_wins l D K hM f_86 A_82 hT a0 ha0 hk0 x1 hp0 hq_91 hq_93) m_X12_wins wm_X12_220 (zrecv hs hP ha0 (zF_11 hk0) rfl) ⟨by decide, by decide⟩ hl.1 (Nat.le_of_ble_eq_true rfl) dX12_goThrough_152) hS (fun x_95 f_95 A_95 H locs p_95 hP hS => ?_)
            obtain ⟨hT, hA_95, hF_95, pp_95⟩ := p_95
            have pp_95 : (f_86 11).toInt ≤ (f_95 11).toInt ∧ (f_95 11).toInt ≤ (f_86 11).toInt + 3 ∧ ((f_86 12).toInt ≠ 0 → (f_95 11).toInt = (f_86 11).toInt) ∧ 0 ≤ x_95.toInt ∧ x_95.toInt < (f_86 16).toInt := pp_95
            have ev_96 : f_86 11 = f_21 11 := by rw [hE_86, pk_un (show 11 ≠ 16 by decide), hE_68, pk_un (show 11 ≠ 28 by decide)]
            have ev_97 : f_86 12 = f 12 := by rw [hE_86, pk_un (show 12 ≠ 16 by decide), hE_68, pk_un (show 12 ≠ 28 by decide), hF_21 12 (by decide), FF_12 12 (by decide)]
            have ev_98 : f_86 16 = x_85 := by rw [hE_86, pk_us]
            rw [ev_96, ev_97, ev_98] at pp_95
            have FA := frA FA hA_95 (by decide)
            have FF := frF FF hF_95 (by decide)
            refine lv_istore (lv' := [(7, .int x_95), (6, .int (A 66 y_10.toNatClampNeg)), (5, .int x_21), (4, .int y_9), (3, .int y_10), (0, .ref a0), (1, .int x1), (2, .int x2)]) hx hb dX12_goThrough_155 hl (by decide) rfl (fun ls hl => ?_)
            refine lv_aload_n hx hb dX12_goThrough_157 rfl (lv_at hl 5 rfl) ?_
            refine mg_26 C hs hP ha0 hk0 wf_X12_60 dX12_goThrough_158 ?_
            refine lv_iload hx hb dX12_goThrough_161 (lv_at hl 0 rfl) ?_
            have g_100 := z_rng x_95
            have hin_99 : vp_in x_95 (zn K (zr K a0 26)) := vp_in_iff.mpr (by rw [(hf_50.2.2 (by decide))]; refine ⟨?_, ?_⟩ <;> omega)
            refine mld_66 C hs hP hf_50.1 hf_50.2.1 hin_99 dX12_goThrough_163 ?_
            have ev_101 : A_95 66 x_95.toNatClampNeg = A 66 x_95.toNatClampNeg := by rw [hA_95 66 (by decide), hE_82, va_up_ne _ _ (show 66 ≠ 55 by decide), hE_60, va_up_ne _ _ (show 66 ≠ 69 by decide), hE_56, va_up_ne _ _ (show 66 ≠ 70 by decide), hA_21 66 (by decide), FA_12 66 (by decide)]
            have tv_102 := ra_66 hT (vp_in_iff.mp hin_99).1 (by have h7 := (vp_in_iff.mp hin_99).2; rw [(hf_50.2.2 (by decide))] at h7; exact h7)
            rw [ev_101] at tv_102
            rw [ev_101]
            refine lv_iconst (v := 2) hx hb dX12_goThrough_164 (by decide) ?_
            refine lv_irem hx hb dX12_goThrough_165 (by decide) ?_
            refine lv_topi (fun x_103 ex_103 => ?_)
            refine lv_aload_n hx hb dX12_goThrough_166 rfl (lv_at hl 5 rfl) ?_
            refine mg_25 C hs hP ha0 hk0 wf_X12_262 dX12_goThrough_167 ?_
            have ev_104 : f_95 25 = f 25 := by rw [hF_95 25 (by decide), hE_86, pk_un (show 25 ≠ 16 by decide), hE_68, pk_un (show 25 ≠ 28 by decide), hF_21 25 (by decide), FF_12 25 (by decide)]
            rw [ev_104]
            have J_178_107 : ∀ (y_106 : Int32) (ls : Array Slot), (y_106 = 0 ∨ y_106 = 1) → lv_has ls 11 [(0, .ref a0), (1, .int x1), (2, .int x2), (3, .int y_10), (4, .int y_9), (5, .int x_21), (6, .int (A 66 y_10.toNatClampNeg)), (7, .int x_95)] → W p l e (rmd 4) s m args below meth c H locs 0 0 Q (F0 m 178 ls [.int y_106]) := by
              intro y_106 ls hb_y_106 hl
              refine lv_istore (lv' := [(8, .int y_106), (0, .ref a0), (1, .int x1), (2, .int x2), (3, .int y_10), (4, .int y_9), (5, .int x_21), (6, .int (A 66 y_10.toNatClampNeg)), (7, .int x_95)]) hx hb dX12_goThrough_178 hl (by decide) rfl (fun ls hl => ?_)
              refine lv_aload_n hx hb dX12_goThrough_180 rfl (lv_at hl 1 rfl) ?_
              refine lv_aload_n hx hb dX12_goThrough_181 rfl (lv_at hl 1 rfl) ?_
              refine mg_28 C hs hP ha0 hk0 wf_X12_256 dX12_goThrough_182 ?_
              have ev_109 : f_95 28 = x_67 := by rw [hF_95 28 (by decide), hE_86, pk_un (show 28 ≠ 16 by decide), hE_68, pk_us]
              rw [ev_109]
              have tf_110 : 0 ≤ x_67.toInt ∧ x_67.toInt ≤ 65535 := by rw [← ev_109]; exact hT.1 28
              refine lv_aload_n hx hb dX12_goThrough_185 rfl (lv_at hl 1 rfl) ?_
              refine mg_26 C hs hP ha0 hk0 wf_X12_60 dX12_goThrough_186 ?_
              refine lv_iload hx hb dX12_goThrough_189 (lv_at hl 8 rfl) ?_
              have hin_111 : vp_in x_95 (zn K (zr K a0 26)) := vp_in_iff.mpr (by rw [(hf_50.2.2 (by decide))]; refine ⟨?_, ?_⟩ <;> omega)
              refine mld_66 C hs hP hf_50.1 hf_50.2.1 hin_111 dX12_goThrough_191 ?_
              have ev_112 : A_95 66 x_95.toNatClampNeg = A 66 x_95.toNatClampNeg := by rw [hA_95 66 (by decide), hE_82, va_up_ne _ _ (show 66 ≠ 55 by decide), hE_60, va_up_ne _ _ (show 66 ≠ 69 by decide), hE_56, va_up_ne _ _ (show 66 ≠ 70 by decide), hA_21 66 (by decide), FA_12 66 (by decide)]
              rw [ev_112]
              have g_113 := z_rng (A 66 x_95.toNatClampNeg)
              have hq_114 : 0 ≤ x_67.toInt ∧ x_67.toInt ≤ 65535 := by (first | assumption | omega | (intros; omega))
              have hq_115 : 0 ≤ (A 66 x_95.toNatClampNeg).toInt ∧ (A 66 x_95.toNatClampNeg).toInt ≤ 3 := by (first | assumption | omega | (intros; omega))
              refine zcS (zrV (As := [.int x_67, .int (A 66 x_95.toNatClampNeg)]) (b := a0) (rest := []) C hs hP hS (c_X12_leaderFrom l D K hM f_95 A_95 hT a0 ha0 hk0 x_67 (A 66 x_95.toNatClampNeg) hq_114 hq_115) m_X12_leaderFrom wm_X12_274 (zrecv hs hP ha0 (zF_11 hk0) rfl) ⟨by decide, by decide⟩ hl.1 (Nat.le_of_ble_eq_true rfl) dX12_goThrough_192) (fun x_116 p_116 => ?_)
              have pp_116 : x_116.toInt = -1 ∨ (0 ≤ x_116.toInt ∧ x_116.toInt ≤ 3 ∧ x_67.toInt ≠ 0) := p_116
              refine lv_istore (lv' := [(9, .int x_116), (8, .int y_106), (0, .ref a0), (1, .int x1), (2, .int x2), (3, .int y_10), (4, .int y_9), (5, .int x_21), (6, .int (A 66 y_10.toNatClampNeg)), (7, .int x_95)]) hx hb dX12_goThrough_195 hl (by decide) rfl (fun ls hl => ?_)
              refine lv_iconst (v := 4) hx hb dX12_goThrough_197 (by decide) ?_
              refine lv_aload_n hx hb dX12_goThrough_198 rfl (lv_at hl 2 rfl) ?_
              refine mg_28 C hs hP ha0 hk0 wf_X12_256 dX12_goThrough_199 ?_
              have ev_117 : f_95 28 = x_67 := by rw [hF_95 28 (by decide), hE_86, pk_un (show 28 ≠ 16 by decide), hE_68, pk_us]
              rw [ev_117]
              refine lv_imul hx hb dX12_goThrough_202 ?_
              refine lv_topi (fun x_118 ex_118 => ?_)
              refine lv_iload hx hb dX12_goThrough_203 (lv_at hl 0 rfl) ?_
              refine lv_iadd hx hb dX12_goThrough_205 ?_
              refine lv_topi (fun x_119 ex_119 => ?_)
              refine lv_istore (lv' := [(10, .int x_119), (9, .int x_116), (8, .int y_106), (0, .ref a0), (1, .int x1), (2, .int x2), (3, .int y_10), (4, .int y_9), (5, .int x_21), (6, .int (A 66 y_10.toNatClampNeg)), (7, .int x_95)]) hx hb dX12_goThrough_206 hl (by decide) rfl (fun ls hl => ?_)
              refine lv_aload_n hx hb dX12_goThrough_208 rfl (lv_at hl 3 rfl) ?_
              refine lv_iload_n hx hb dX12_goThrough_209 rfl (lv_at hl 6 rfl) ?_
              have hq_120 : 0 ≤ y_10.toInt ∧ y_10.toInt ≤ 3 := by (first | assumption | omega | (intros; omega))
              have ev_122 : f_95 16 = x_85 := by rw [hF_95 16 (by decide), hE_86, pk_us]
              have hq_121 : 1 ≤ (f_95 16).toInt := by rw [ev_122] <;> (first | assumption | omega | (intros; omega))
              refine mcV (zrV (As := [.int y_10]) (b := a0) (rest := []) C hs hP hS (c_X12_takeUp l D K hM f_95 A_95 hT a0 ha0 hk0 y_10 hq_120 hq_121) m_X12_takeUp wm_X12_277 (zrecv hs hP ha0 (zF_11 hk0) rfl) ⟨by decide, by decide⟩ hl.1 (Nat.le_of_ble_eq_true rfl) dX12_goThrough_210) hS (fun f_123 A_123 H locs p_123 hP hS => ?_)
              obtain ⟨hT, hA_123, hF_123, pp_123⟩ := p_123
              have pp_123 : (f_123 16).toInt = (f_95 16).toInt - 1 := pp_123
              have ev_124 : f_95 16 = x_85 := by rw [hF_95 16 (by decide), hE_86, pk_us]
              rw [ev_124] at pp_123
              have FA := frA FA hA_123 (by decide)
              have FF := frF FF hF_123 (by decide)
              refine lv_aload_n hx hb dX12_goThrough_213 rfl (lv_at hl 3 rfl) ?_
              refine lv_iload_n hx hb dX12_goThrough_214 rfl (lv_at hl 6 rfl) ?_
              refine lv_iload hx hb dX12_goThrough_215 (lv_at hl 2 rfl) ?_
              refine lv_iload hx hb dX12_goThrough_217 (lv_at hl 1 rfl) ?_
              refine lv_iconst (v := (-1)) hx hb dX12_goThrough_219 (by decide) ?_
              have J_234_131 : ∀ (y_130 : Int32) (ls : Array Slot), lv_has ls 11 [(0, .ref a0), (1, .int x1), (2, .int x2), (3, .int y_10), (4, .int y_9), (5, .int x_21), (6, .int (A 66 y_10.toNatClampNeg)), (7, .int x_95), (8, .int y_106), (9, .int x_116), (10, .int x_119)] → W p l e (rmd 4) s m args below meth c H locs 0 0 Q (F0 m 234 ls [.int y_130, .int y_106, .int y_10, .ref a0]) := by
                intro y_130 ls hl
                refine lv_iadd hx hb dX12_goThrough_234 ?_
                refine lv_topi (fun x_133 ex_133 => ?_)
                refine lv_iload hx hb dX12_goThrough_235 (lv_at hl 8 rfl) ?_
                refine lv_iload hx hb dX12_goThrough_237 (lv_at hl 9 rfl) ?_
                refine lv_iconst (v := (-1)) hx hb dX12_goThrough_239 (by decide) ?_
                have J_254_140 : ∀ (y_139 : Int32) (ls : Array Slot), lv_has ls 11 [(0, .ref a0), (1, .int x1), (2, .int x2), (3, .int y_10), (4, .int y_9), (5, .int x_21), (6, .int (A 66 y_10.toNatClampNeg)), (7, .int x_95), (8, .int y_106), (9, .int x_116), (10, .int x_119)] → W p l e (rmd 4) s m args below meth c H locs 0 0 Q (F0 m 254 ls [.int y_139, .int y_106, .int x_133, .int y_10, .ref a0]) := by
                  intro y_139 ls hl
                  refine lv_iadd hx hb dX12_goThrough_254 ?_
                  refine lv_topi (fun x_142 ex_142 => ?_)
                  have g_143 := z_rng y_106
                  have g_144 := z_rng y_130
                  obtain ⟨f_133, l_133, u_133⟩ := z_add ex_133 rfl rfl
                  try replace f_133 : x_133.toInt = y_106.toInt + y_130.toInt := by omega
                  clear l_133 u_133
                  have g_145 := z_rng y_139
                  obtain ⟨f_142, l_142, u_142⟩ := z_add ex_142 rfl rfl
                  try replace f_142 : x_142.toInt = y_106.toInt + y_139.toInt := by omega
                  clear l_142 u_142
                  have hq_146 : 0 ≤ y_10.toInt ∧ y_10.toInt ≤ 3 := by (first | assumption | omega | (intros; omega))
                  refine mcV (zrV (As := [.int y_10, .int x_133, .int x_142]) (b := a0) (rest := []) C hs hP hS (c_X12_rate l D K hM f_123 A_123 hT a0 ha0 hk0 y_10 x_133 x_142 hq_146) m_X12_rate wm_X12_280 (zrecv hs hP ha0 (zF_11 hk0) rfl) ⟨by decide, by decide⟩ hl.1 (Nat.le_of_ble_eq_true rfl) dX12_goThrough_255) hS (fun f_147 A_147 H locs p_147 hP hS => ?_)
                  obtain ⟨hT, hA_147, hF_147⟩ := p_147
                  have FA := frA FA hA_147 (by decide)
                  have FF := frF FF hF_147 (by decide)
                  refine lv_goto (tgt := 305) hx hb dX12_goThrough_258 (by decide) ?_
                  refine lv_goto (tgt := 24) hx hb dX12_goThrough_305 (by decide) ?_
                  have g_148 := z_rng y_9
                  have g_149 := z_rng (f 27)
                  have g_150 := z_rng x_87
                  have eu_151 : A_147 69 = upd (A_12 69) (y_10.toNatClampNeg) x_58 := by rw [hA_147 69 (by decide), hA_123 69 (by decide), hA_95 69 (by decide), hE_82, va_up_ne _ _ (show 69 ≠ 55 by decide), hE_60, va_up_self, hE_56, va_up_ne _ _ (show 69 ≠ 70 by decide), hA_21 69 (by decide)]
                  have hg_152 : gM (upd (A_12 69) (y_10.toNatClampNeg) x_58) x2.toInt y_10.toInt < gM (A_12 69) x2.toInt y_10.toInt := gM_leaf (T := A_12 69) (level := y_10.toInt) hT4 ⟨by omega, by omega, by omega⟩ ⟨by show (A_12 69 y_10.toNatClampNeg).toInt < _; omega, by omega⟩
                  have ev_153 : f_147 16 = f_123 16 := by rw [hF_147 16 (by decide)]
                  have ev_154 : f_147 11 = f_95 11 := by rw [hF_147 11 (by decide), hF_123 11 (by decide)]
                  exact ih_11 f_147 A_147 _ _ y_9 y_10 _ (by have h9 := hm_11; rw [if_neg c_14] at h9 ⊢; rw [eu_151]; have h8 := hg_152; omega) hb_y_9 (by omega) (by omega) (by rw [ev_153] <;> omega) (fun h9 => by omega) (by rw [ev_154] <;> omega) FA FF hT hP hS (lv_sub hl [4, 3, 0, 1, 2] rfl)
                refine bi_ne (tgt := 247) hx hb rfl ti_m1 dX12_goThrough_240 (by decide) (fun c_134 => ?_) (fun c_134 => ?_)
                · skip
                  refine lv_aload_n hx hb dX12_goThrough_247 rfl (lv_at hl 0 rfl) ?_
                  refine mg_22 C hs hP ha0 hk0 wf_X12_53 dX12_goThrough_248 ?_
                  have hf_155 := hO.r (j := 22) ha0 hk0 (rfl : zX 11 22 = some (62, 262144))
                  refine lv_iload hx hb dX12_goThrough_251 (lv_at hl 10 rfl) ?_
                  obtain ⟨f_118, l_118, u_118⟩ := z_mul ex_118 ti_4 rfl
                  try replace f_118 : x_118.toInt = 4 * x_67.toInt := by omega
                  clear l_118 u_118
                  have g_157 := z_rng x_116
                  obtain ⟨f_119, l_119, u_119⟩ := z_add ex_119 rfl rfl
                  try replace f_119 : x_119.toInt = x_118.toInt + x_116.toInt := by omega
                  clear l_119 u_119
                  have hin_156 : vp_in x_119 (zn K (zr K a0 22)) := vp_in_iff.mpr (by rw [(hf_155.2.2 (by decide))]; refine ⟨?_, ?_⟩ <;> omega)
                  refine mld_62 C hs hP hf_155.1 hf_155.2.1 hin_156 dX12_goThrough_253 ?_
                  have ev_158 : A_123 62 x_119.toNatClampNeg = A 62 x_119.toNatClampNeg := by rw [hA_123 62 (by decide), hA_95 62 (by decide), hE_82, va_up_ne _ _ (show 62 ≠ 55 by decide), hE_60, va_up_ne _ _ (show 62 ≠ 69 by decide), hE_56, va_up_ne _ _ (show 62 ≠ 70 by decide), hA_21 62 (by decide), FA_12 62 (by decide)]
                  rw [ev_158]
                  exact J_254_140 (A 62 x_119.toNatClampNeg) _ (lv_sub hl [0, 1, 2, 3, 4, 5, 6, 7, 8, 9, 10] rfl)
                · skip
                  refine lv_iconst (v := 0) hx hb dX12_goThrough_243 (by decide) ?_
                  refine lv_goto (tgt := 254) hx hb dX12_goThrough_244 (by decide) ?_
                  exact J_254_140 0 _ (lv_sub hl [0, 1, 2, 3, 4, 5, 6, 7, 8, 9, 10] rfl)
              refine bi_ne (tgt := 227) hx hb rfl ti_m1 dX12_goThrough_220 (by decide) (fun c_125 => ?_) (fun c_125 => ?_)
              · skip
                refine lv_aload_n hx hb dX12_goThrough_227 rfl (lv_at hl 3 rfl) ?_
                refine mg_21 C hs hP ha0 hk0 wf_X12_49 dX12_goThrough_228 ?_
                have hf_159 := hO.r (j := 21) ha0 hk0 (rfl : zX 11 21 = some (61, 262144))
                refine lv_iload hx hb dX12_goThrough_231 (lv_at hl 0 rfl) ?_
                obtain ⟨f_118, l_118, u_118⟩ := z_mul ex_118 ti_4 rfl
                try replace f_118 : x_118.toInt = 4 * x_67.toInt := by omega
                clear l_118 u_118
                have g_161 := z_rng x_116
                obtain ⟨f_119, l_119, u_119⟩ := z_add ex_119 rfl rfl
                try replace f_119 : x_119.toInt = x_118.toInt + x_116.toInt := by omega
                clear l_119 u_119
                have hin_160 : vp_in x_119 (zn K (zr K a0 21)) := vp_in_iff.mpr (by rw [(hf_159.2.2 (by decide))]; refine ⟨?_, ?_⟩ <;> omega)
                refine mld_61 C hs hP hf_159.1 hf_159.2.1 hin_160 dX12_goThrough_233 ?_
                have ev_162 : A_123 61 x_119.toNatClampNeg = A 61 x_119.toNatClampNeg := by rw [hA_123 61 (by decide), hA_95 61 (by decide), hE_82, va_up_ne _ _ (show 61 ≠ 55 by decide), hE_60, va_up_ne _ _ (show 61 ≠ 69 by decide), hE_56, va_up_ne _ _ (show 61 ≠ 70 by decide), hA_21 61 (by decide), FA_12 61 (by decide)]
                rw [ev_162]
                exact J_234_131 (A 61 x_119.toNatClampNeg) _ (lv_sub hl [3, 4, 5, 6, 7, 8, 9, 10, 2, 1, 0] rfl)
              · skip
                refine lv_iconst (v := 0) hx hb dX12_goThrough_223 (by decide) ?_
                refine lv_goto (tgt := 234) hx hb dX12_goThrough_224 (by decide) ?_
                exact J_234_131 0 _ (lv_sub hl [3, 4, 5, 6, 7, 8, 9, 10, 2, 1, 0] rfl)
            refine bi_ne (tgt := 177) hx hb rfl rfl dX12_goThrough_170 (by decide) (fun c_105 => ?_) (fun c_105 => ?_)
            · skip
              refine lv_iconst (v := 0) hx hb dX12_goThrough_177 (by decide) ?_
              exact J_178_107 0 _ (Or.inl rfl) (lv_sub hl [5, 6, 7, 4, 3, 2, 1, 0] rfl)
            · skip
              refine lv_iconst (v := 1) hx hb dX12_goThrough_173 (by decide) ?_
              refine lv_goto (tgt := 178) hx hb dX12_goThrough_174 (by decide) ?_
              exact J_178_107 1 _ (Or.inr rfl) (lv_sub hl [5, 6, 7, 4, 3, 2, 1, 0] rfl)
          · skip
            obtain ⟨x_163, ex_163⟩ : ∃ y : Int32, y = y_10 + 1 := ⟨_, rfl⟩
            refine lv_iinc (v := x_163) (lv' := [(3, .int x_163), (6, .int (A 66 y_10.toNatClampNeg)), (5, .int x_21), (4, .int y_9), (0, .ref a0), (1, .int x1), (2, .int x2)]) hx hb dX12_goThrough_130 hl (k := 3) rfl (by rw [ex_163]; rfl) (by decide) rfl (fun ls hl => ?_)
            refine lv_aload_n hx hb dX12_goThrough_133 rfl (lv_at hl 4 rfl) ?_
            refine mg_31 C hs hP ha0 hk0 wf_X12_69 dX12_goThrough_134 ?_
            refine lv_iload_n hx hb dX12_goThrough_137 rfl (lv_at hl 0 rfl) ?_
            refine lv_iconst (v := 0) hx hb dX12_goThrough_138 (by decide) ?_
            obtain ⟨f_163, l_163, u_163⟩ := z_add ex_163 rfl ti_1
            try replace f_163 : x_163.toInt = y_10.toInt + 1 := by omega
            clear l_163 u_163
            obtain ⟨f_87, l_87, u_87⟩ := z_add ex_87 rfl ti_1
            try replace f_87 : x_87.toInt = y_10.toInt + 1 := by omega
            clear l_87 u_87
            have hin_164 : vp_in x_163 (zn K (zr K a0 31)) := vp_in_iff.mpr (by rw [(hf_2.2.2 (by decide))]; refine ⟨?_, ?_⟩ <;> omega)
            have hw_165 : vp_nar .boolean 0 = 0 := by decide +kernel
            refine mst_71 C hM hs hP hS hf_2.1 hT hf_2.2.1 hin_164 (by rw [hw_165]; show 0 ≤ (0 : Int32).toInt ∧ (0 : Int32).toInt ≤ 1; rw [ti_0]; omega) dX12_goThrough_139 (fun A_165 H locs hE_165 hT hP hS => ?_)
            rw [hw_165] at hE_165
            have FA := frA FA (frAu hE_165) (by decide)
            refine lv_aload_n hx hb dX12_goThrough_140 rfl (lv_at hl 4 rfl) ?_
            refine mg_29 C hs hP ha0 hk0 wf_X12_63 dX12_goThrough_141 ?_
            refine lv_iload_n hx hb dX12_goThrough_144 rfl (lv_at hl 0 rfl) ?_
            refine lv_iconst (v := 0) hx hb dX12_goThrough_145 (by decide) ?_
            have hin_166 : vp_in x_163 (zn K (zr K a0 29)) := vp_in_iff.mpr (by rw [(hf_6.2.2 (by decide))]; refine ⟨?_, ?_⟩ <;> omega)
            refine mst_69 C hM hs hP hS hf_6.1 hT hf_6.2.1 hin_166 (show 0 ≤ (0 : Int32).toInt ∧ (0 : Int32).toInt ≤ 4 from by rw [ti_0]; omega) dX12_goThrough_146 (fun A_167 H locs hE_167 hT hP hS => ?_)
            have FA := frA FA (frAu hE_167) (by decide)
            refine lv_goto (tgt := 24) hx hb dX12_goThrough_147 (by decide) ?_
            have g_168 := z_rng y_9
            have g_169 := z_rng (f 27)
            have g_170 := z_rng x_87
            have eu_171 : A_167 69 = upd (upd (A_12 69) (y_10.toNatClampNeg) x_58) (x_163.toNatClampNeg) 0 := by rw [hE_167, va_up_self, hE_165, va_up_ne _ _ (show 69 ≠ 71 by decide), hE_82, va_up_ne _ _ (show 69 ≠ 55 by decide), hE_60, va_up_self, hE_56, va_up_ne _ _ (show 69 ≠ 70 by decide), hA_21 69 (by decide)]
            have hg_172 : gM (upd (upd (A_12 69) (y_10.toNatClampNeg) x_58) (x_163.toNatClampNeg) 0) x2.toInt x_163.toInt < gM (A_12 69) x2.toInt y_10.toInt := by rw [show x_163.toNatClampNeg = (y_10.toInt + 1).toNat from z_pos (by omega), show x_163.toInt = y_10.toInt + 1 by omega]; exact gM_push (T := A_12 69) (level := y_10.toInt) hT4 ⟨by omega, by omega, by omega⟩ ⟨by show (A_12 69 y_10.toNatClampNeg).toInt < _; omega, by omega⟩
            have ev_173 : f_86 16 = x_85 := by rw [hE_86, pk_us]
            have ev_174 : f_86 11 = f_21 11 := by rw [hE_86, pk_un (show 11 ≠ 16 by decide), hE_68, pk_un (show 11 ≠ 28 by decide)]
            exact ih_11 f_86 A_167 _ _ y_9 x_163 _ (by have h9 := hm_11; rw [if_neg c_14] at h9 ⊢; rw [eu_171]; have h8 := hg_172; omega) hb_y_9 (by omega) (by omega) (by rw [ev_173] <;> omega) (fun h9 => by omega) (by rw [ev_174] <;> omega) FA FF hT hP hS (lv_sub hl [3, 0, 4, 5, 6] rfl)
  have ev_175 : f_1 16 = f 16 := by rw [hE_1, pk_un (show 16 ≠ 35 by decide)]
  have ev_176 : f_1 11 = f 11 := by rw [hE_1, pk_un (show 11 ≠ 35 by decide)]
  exact L_24_11 _ f_1 A_8 _ _ 1 x2 _ (Nat.lt_succ_self _) (Or.inr rfl) (by omega) (by omega) (by rw [ev_175] <;> omega) (fun h9 => absurd h9 (by decide)) (by rw [ev_176] <;> omega) FA FF hT hP hS (lv_sub hl [0, 1, 2, 3, 4] rfl)
