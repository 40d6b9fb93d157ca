def kR (k : Nat → Int32) (g : Int32) (r : Int32) : Prop := (isG k g ∧ r = k g.toNatClampNeg) ∨ (¬ isG k g ∧ r = -2)
theorem kR.one {k : Nat → Int32} {g r r1 : Int32} (h : kR k g r) (h1 : kR k g r1) : r = r1 := by
  rcases h with ⟨a1, e⟩ | ⟨a1, e⟩ <;> rcases h1 with ⟨b1, e1⟩ | ⟨b1, e1⟩ <;> first | contradiction | (rw [e, e1])
def tBad (p : Int32) : Prop := ¬ (4 ≤ p.toInt ∧ p.toInt ≤ 60) ∨ p.toInt % 4 ≠ 0
def tNo (k : Nat → Int32) (t g : Int32) : Prop := ¬ (0 ≤ t.toInt ∧ t.toInt ≤ 3) ∨ ¬ isG k g
def tRs (k : Nat → Int32) (t p g : Int32) (r : Int) : Prop := (tNo k t g ∧ r = -2) ∨ (¬ tNo k t g ∧ tBad p ∧ r = -3) ∨ (¬ tNo k t g ∧ ¬ tBad p ∧ r = 1)
theorem tRs.one {k : Nat → Int32} {t p g : Int32} {r r1 : Int} (h : tRs k t p g r) (h1 : tRs k t p g r1) : r = r1 := by
  rcases h with ⟨a1, e⟩ | ⟨a1, a2, e⟩ | ⟨a1, a2, e⟩ <;> rcases h1 with ⟨b1, e1⟩ | ⟨b1, b2, e1⟩ | ⟨b1, b2, e1⟩ <;> first | contradiction | (rw [e, e1])
theorem and3 {x a : Int32} (e : x = a &&& 3) (h0 : 0 ≤ a.toInt) : x.toInt = a.toInt % 4 := by
  have h1 : x.toBitVec.toNat = a.toBitVec.toNat &&& 3 := by rw [e]; rfl
  have h2 : a.toBitVec.toNat &&& 3 = a.toBitVec.toNat % 4 := Nat.and_two_pow_sub_one_eq_mod a.toBitVec.toNat 2
  have h3 := z_nn h0
  have h4 := z_ofN (x := x) (by omega)
  omega
set_option maxHeartbeats 4000000 in
set_option maxRecDepth 100000 in
theorem c_X11_kindOf (l : Launch) (D : va_G) (K : zK) (hO : zOk K) (vi va : Nat → Nat → Int32) (vg : Nat → Nat → Option Nat) (hI : zI K (vi, va, vg)) (a0 : Nat) (ha0 : a0 ∈ zl K) (hk0 : zk K a0 = 10) (hgk : gok K) (x1 : Int32) : Met l yX11_kindOf (zc yX11_kindOf cX11_kindOf 3 (some .int)) (rmd 2) (va_Pc [.ref a0, .int x1] (zB D K (vi, va, vg))) (vp_Si (fun r => kR (gk K) x1 r)) 0 0 (fun _ => False) := by
  refine zin (by decide) (Nat.le_of_ble_eq_true rfl) ?_
  intro p e s m args below meth c ls Q hQ C hr hlk hP hs hl
  have C : CallFix p m c cX11_kindOf 3 s args zw RX11 := C
  obtain ⟨hx, hb, hml, hown, hts⟩ := id C
  have hS : va_S (zA K) s.heap s.heap [] := va_S.rf
  have hl : lv_has ls 3 [(0, .ref a0), (1, .int x1)] := hl
  refine lv_aload_n hx hb dX11_kindOf_0 rfl (lv_at hl 0 rfl) ?_
  refine lv_iload_n hx hb dX11_kindOf_1 rfl (lv_at hl 1 rfl) ?_
  refine zcSq (zrV (As := [.int x1]) (b := a0) (rest := []) C hs hP hS (c_X11_gameAt l D K hO vi va vg hI a0 ha0 hk0 x1) m_X11_gameAt wm_X11_61 (zrecv hs hP ha0 (zF_10 hk0) rfl) ⟨by decide, by decide⟩ hl.1 (Nat.le_of_ble_eq_true rfl) dX11_kindOf_2) (fun y => ?_) (fun q y => ?_)
  · refine lv_astore_nN (lv' := [(2, .null), (0, .ref a0), (1, .int x1)]) hx hb dX11_kindOf_5 rfl hl (by decide) rfl (fun ls hl => ?_)
    refine lv_aload_nN hx hb dX11_kindOf_6 rfl (lv_at hl 0 rfl) ?_
    refine lv_ifnonnullN hx hb dX11_kindOf_7 ?_
    refine lv_bipush (v := (-2)) hx hb dX11_kindOf_10 (by decide) ?_
    refine lv_goto (tgt := 19) hx hb dX11_kindOf_12 (by decide) ?_
    exact zaS hQ hx hb hr hlk (Or.inr ⟨gA.none y, rfl⟩) dX11_kindOf_19
  · obtain ⟨i1, m1, a1, e1, -⟩ := gA.some hgk y
    refine lv_astore_n (lv' := [(2, .ref q), (0, .ref a0), (1, .int x1)]) hx hb dX11_kindOf_5 rfl hl (by decide) rfl (fun ls hl => ?_)
    refine lv_aload_n hx hb dX11_kindOf_6 rfl (lv_at hl 0 rfl) ?_
    refine lv_ifnonnull (tgt := 15) hx hb dX11_kindOf_7 (by decide) ?_
    refine lv_aload_n hx hb dX11_kindOf_15 rfl (lv_at hl 0 rfl) ?_
    refine zg_type C hs hP m1 a1 wf_X11_75 dX11_kindOf_16 ?_
    exact zaS hQ hx hb hr hlk (Or.inl ⟨i1, e1.symm⟩) dX11_kindOf_19
set_option maxHeartbeats 4000000 in
set_option maxRecDepth 100000 in
theorem c_X11_table (l : Launch) (D : va_G) (K : zK) (hO : zOk K) (vi va : Nat → Nat → Int32) (vg : Nat → Nat → Option Nat) (hI : zI K (vi, va, vg)) (a0 : Nat) (ha0 : a0 ∈ zl K) (hk0 : zk K a0 = 10) (hgk : gok K) (x1 x2 x3 : Int32) : Met l yX11_table (zc yX11_table cX11_table 5 (some .int)) (rmd 4) (va_Pc [.ref a0, .int x1, .int x2, .int x3] (zB D K (vi, va, vg))) (zQi D K (fun r V' => zI K V' ∧ tRs (gk K) x1 x2 x3 r.toInt)) 0 0 (zA K) := by
  refine zin (by decide) (Nat.le_of_ble_eq_true rfl) ?_
  intro p e s m args below meth c ls Q hQ C hr hlk hP hs hl
  have C : CallFix p m c cX11_table 5 s args zw RX11 := C
  obtain ⟨hx, hb, hml, hown, hts⟩ := id C
  have hS : va_S (zA K) s.heap s.heap [] := va_S.rf
  have hl : lv_has ls 5 [(0, .ref a0), (1, .int x1), (2, .int x2), (3, .int x3)] := hl
  have l21 : ∀ (ls : Array Slot), tNo (gk K) x1 x3 → W p l e (rmd 4) s m args below meth c s.heap [] 0 0 Q (F0 m 21 ls []) := by
    intro ls h
    refine lv_bipush (v := (-2)) hx hb dX11_table_21 (by decide) ?_
    exact zaI hQ hx hb hr hlk hP hS ⟨hI, Or.inl ⟨h, ti_m2⟩⟩ dX11_table_23
  refine lv_aload_n hx hb dX11_table_0 rfl (lv_at hl 0 rfl) ?_
  refine lv_iload_n hx hb dX11_table_1 rfl (lv_at hl 3 rfl) ?_
  refine zcSq (zrV (As := [.int x3]) (b := a0) (rest := []) C hs hP hS (c_X11_gameAt l D K hO vi va vg hI a0 ha0 hk0 x3) m_X11_gameAt wm_X11_61 (zrecv hs hP ha0 (zF_10 hk0) rfl) ⟨by decide, by decide⟩ hl.1 (Nat.le_of_ble_eq_true rfl) dX11_table_2) (fun y => ?_) (fun q y => ?_)
  · refine lv_astoreN (lv' := [(4, .null), (0, .ref a0), (1, .int x1), (2, .int x2), (3, .int x3)]) hx hb dX11_table_5 hl (by decide) rfl (fun ls hl => ?_)
    refine lv_iload_n hx hb dX11_table_7 rfl (lv_at hl 2 rfl) ?_
    refine bz_lt (tgt := 21) hx hb rfl dX11_table_8 (by decide) (fun c1 => l21 ls (Or.inl (fun h => by omega))) (fun c1 => ?_)
    refine lv_iload_n hx hb dX11_table_11 rfl (lv_at hl 2 rfl) ?_
    refine lv_iconst (v := 4) hx hb dX11_table_12 (by decide) ?_
    refine bi_ge (tgt := 21) hx hb rfl ti_4 dX11_table_13 (by decide) (fun c2 => l21 ls (Or.inl (fun h => by omega))) (fun c2 => ?_)
    refine lv_aloadN hx hb dX11_table_16 (lv_at hl 0 rfl) ?_
    refine lv_ifnonnullN hx hb dX11_table_18 ?_
    exact l21 ls (Or.inr (gA.none y))
  · obtain ⟨i1, m1, g1, e1, -⟩ := gA.some hgk y
    refine lv_astore (lv' := [(4, .ref q), (0, .ref a0), (1, .int x1), (2, .int x2), (3, .int x3)]) hx hb dX11_table_5 hl (by decide) rfl (fun ls hl => ?_)
    refine lv_iload_n hx hb dX11_table_7 rfl (lv_at hl 2 rfl) ?_
    refine bz_lt (tgt := 21) hx hb rfl dX11_table_8 (by decide) (fun c1 => l21 ls (Or.inl (fun h => by omega))) (fun c1 => ?_)
    refine lv_iload_n hx hb dX11_table_11 rfl (lv_at hl 2 rfl) ?_
    refine lv_iconst (v := 4) hx hb dX11_table_12 (by decide) ?_
    refine bi_ge (tgt := 21) hx hb rfl ti_4 dX11_table_13 (by decide) (fun c2 => l21 ls (Or.inl (fun h => by omega))) (fun c2 => ?_)
    refine lv_aload hx hb dX11_table_16 (lv_at hl 0 rfl) ?_
    refine lv_ifnonnull (tgt := 24) hx hb dX11_table_18 (by decide) ?_
    have nN : ¬ tNo (gk K) x1 x3 := fun h => by
      rcases h with h | h
      · omega
      · exact h i1
    have l41 : tBad x2 → W p l e (rmd 4) s m args below meth c s.heap [] 0 0 Q (F0 m 41 ls []) := by
      intro h
      refine lv_bipush (v := (-3)) hx hb dX11_table_41 (by decide) ?_
      exact zaI hQ hx hb hr hlk hP hS ⟨hI, Or.inr (Or.inl ⟨nN, h, ti_m3⟩)⟩ dX11_table_43
    refine lv_iload_n hx hb dX11_table_24 rfl (lv_at hl 3 rfl) ?_
    refine lv_iconst (v := 4) hx hb dX11_table_25 (by decide) ?_
    refine bi_lt (tgt := 41) hx hb rfl ti_4 dX11_table_26 (by decide) (fun c3 => l41 (Or.inl (fun h => by omega))) (fun c3 => ?_)
    refine lv_iload_n hx hb dX11_table_29 rfl (lv_at hl 3 rfl) ?_
    refine lv_bipush (v := 60) hx hb dX11_table_30 (by decide) ?_
    refine bi_gt (tgt := 41) hx hb rfl (show (60 : Int32).toInt = 60 by decide +kernel) dX11_table_32 (by decide) (fun c4 => l41 (Or.inl (fun h => by omega))) (fun c4 => ?_)
    refine lv_iload_n hx hb dX11_table_35 rfl (lv_at hl 3 rfl) ?_
    refine lv_iconst (v := 3) hx hb dX11_table_36 (by decide) ?_
    refine lv_iand hx hb dX11_table_37 ?_
    refine lv_topi (fun x_1 ex_1 => ?_)
    have e4 := and3 ex_1 (by omega)
    refine bz_eq (tgt := 44) hx hb rfl dX11_table_38 (by decide) (fun c5 => ?_) (fun c5 => l41 (Or.inr (by omega)))
    have nB : ¬ tBad x2 := fun h => by
      rcases h with h | h <;> omega
    refine lv_aload_n hx hb dX11_table_44 rfl (lv_at hl 1 rfl) ?_
    refine zg_10_1 C hs hP ha0 hk0 wf_X11_17 dX11_table_45 ?_
    have hf := hO.r (j := 1) ha0 hk0 (rfl : zX 10 1 = some (24, 4))
    refine lv_iload_n hx hb dX11_table_48 rfl (lv_at hl 2 rfl) ?_
    have hin : vp_in x1 (zn K (zr K a0 1)) := vp_in_iff.mpr (by rw [hf.2.2 (by decide)]; exact ⟨c1, by omega⟩)
    refine zld_24 C hs hP hf.1 hf.2.1 hin dX11_table_49 ?_
    have ht := zel_24 hO hf.1 hf.2.1 hin
    refine lv_iload_n hx hb dX11_table_50 rfl (lv_at hl 3 rfl) ?_
    refine lv_aload hx hb dX11_table_51 (lv_at hl 0 rfl) ?_
    refine zcV (zrV (As := [.int x2, .ref q]) (b := zr K (zr K a0 1) x1.toNatClampNeg) (rest := []) C hs hP hS (c_X9_setUp l D K hO vi va vg hI _ ht.1 ht.2 x2 q m1 g1) m_X9_setUp wm_X11_79 (zrecv hs hP ht.1 (zF_8 ht.2) rfl) ⟨by decide, by decide⟩ hl.1 (Nat.le_of_ble_eq_true rfl) dX11_table_53) hS (fun V' H locs hI hP hS => ?_)
    obtain ⟨vi, va, vg⟩ := V'
    refine lv_aload_n hx hb dX11_table_56 rfl (lv_at hl 1 rfl) ?_
    refine zg_10_4 C hs hP ha0 hk0 wf_X11_31 dX11_table_57 ?_
    have hf4 := hO.r (j := 4) ha0 hk0 (rfl : zX 10 4 = some (20, 4))
    refine lv_iload_n hx hb dX11_table_60 rfl (lv_at hl 2 rfl) ?_
    refine lv_iconst (v := 0) hx hb dX11_table_61 (by decide) ?_
    refine ks_20 C hO hs hP hS hf4.1 hf4.2.1 hI (vp_in_iff.mpr (by rw [hf4.2.2 (by decide)]; exact ⟨c1, by omega⟩)) dX11_table_62 (fun va H locs hI hP hS => ?_)
    refine lv_iconst (v := 1) hx hb dX11_table_63 (by decide) ?_
    exact zaI hQ hx hb hr hlk hP hS ⟨hI, Or.inr (Or.inr ⟨nN, nB, ti_1⟩)⟩ dX11_table_64
