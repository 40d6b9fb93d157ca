set_option maxHeartbeats 4000000 in
set_option maxRecDepth 100000 in
theorem law_case_18 {p : Program} {l : Launch} {e : Env} {s : State} {m : MethodId} {below : List Frame} {meth : Method} {c : Code} {dC : Nat → ClassId} {dI : Nat → Nat → Nat} {sb : Nat} {xs : Nat → Int32} {a : Nat → Nat} {cG cT : ClassId} {ft : Nat → Option Nat} {TL : va_W} {b : Nat → Nat} {c1 c2 c3 c4 : ClassId} {fk : Nat → Int32} {H : Heap} {locs : List Loc} (C : lw_St p s m meth c dC dI sb xs a cG cT ft TL b c1 c2 c3 c4 fk H locs) {ls : Array Slot} (hl : lv_has ls 4 [(3, .int 0), (2, .ref (b 0)), (1, .ref (a 0)), (0, .ref sb)]) : W p l e room_1 s m #[Value.ref sb] below meth c H locs 1300 700000 (lw_Z below #[Value.ref sb] s) (F0 m 908 ls []) := by
  obtain ⟨C0, hT, hF, hKX, hKM, hPX, hPM, hDX, hDM, hap, hFX, hFM, hS, hCA0, hCA3, hCA5, hCA10⟩ := C
  obtain ⟨hx, hb, hr, hml, hown, hts, hX, hbl, hlocks, hgv⟩ := id C0
  have hbA : ¬ (fun q : Nat => s.heap.size ≤ q) sb := Nat.not_le.mpr hbl
  obtain ⟨v1, hv1⟩ : ∃ v, xs (1 : Int32).toNatClampNeg = v := ⟨_, rfl⟩
  obtain ⟨v2, hv2⟩ : ∃ v, xs (2 : Int32).toNatClampNeg = v := ⟨_, rfl⟩
  obtain ⟨v3, hv3⟩ : ∃ v, xs (3 : Int32).toNatClampNeg = v := ⟨_, rfl⟩
  obtain ⟨v4, hv4⟩ : ∃ v, xs (4 : Int32).toNatClampNeg = v := ⟨_, rfl⟩
  refine lv_aload_n hx hb dL_law_908 rfl (lv_at hl 2 rfl) ?_
  refine lv_aload_n hx hb dL_law_909 rfl (lv_at hl 3 rfl) ?_
  refine lv_iload_n hx hb dL_law_910 rfl (lv_at hl 0 rfl) ?_
  refine lv_iconst (v := 1) hx hb dL_law_911 (by decide) ?_
  refine lv_iadd hx hb dL_law_912 ?_
  refine lv_topi (fun x_1 ex_1 => ?_)
  obtain rfl : x_1 = 1 := ex_1.trans (by decide +kernel)
  refine va_sld hx hb hX hbl hbA hS (by unfold vp_in; decide +kernel) dL_law_913 ?_
  refine lv_topi (fun x_2 ex_2 => ?_)
  obtain rfl : v1 = x_2 := (ex_2.trans hv1).symm
  refine vp_callSi (va_Run.run (va_runV (As := [.int v1]) (rest := []) ⟨hx, hb, hml, hown, hts⟩ (c_X11_winner l dC dI a cG cT ft TL hT v1) (cwV 1 hts gv_RL_90 rfl rfl rfl (by decide +kernel) ⟨Nat.le_of_ble_eq_true rfl, Nat.le_of_ble_eq_true rfl⟩) ⟨fun a U g mk q => by obtain ⟨q0, qP, qK⟩ := q; exact ⟨q0, qP, va_K.moved (u := U) (U := U.calling g mk a) (Vm.Alike.refl U.vm) qK⟩, va_recv hKX hPX (ci := 10) (q0 := 0) rfl rfl, fun U hU hW => ⟨rfl, by rw [hU]; exact hPX, va_K.moved hW.alike hKX⟩⟩ rfl rfl hl.1 rfl (lv_room (Nat.le_of_ble_eq_true rfl)) dL_law_914 ⟨Nat.le_of_ble_eq_true rfl, Nat.le_of_ble_eq_true rfl⟩)) (fun r_3 e_3 => ?_)
  refine lv_aload_n hx hb dL_law_917 rfl (lv_at hl 1 rfl) ?_
  refine lv_aload_n hx hb dL_law_918 rfl (lv_at hl 3 rfl) ?_
  refine lv_iload_n hx hb dL_law_919 rfl (lv_at hl 0 rfl) ?_
  refine lv_iconst (v := 1) hx hb dL_law_920 (by decide) ?_
  refine lv_iadd hx hb dL_law_921 ?_
  refine lv_topi (fun x_4 ex_4 => ?_)
  obtain rfl : x_4 = 1 := ex_4.trans (by decide +kernel)
  refine va_sld hx hb hX hbl hbA hS (by unfold vp_in; decide +kernel) dL_law_922 ?_
  refine lv_topi (fun x_5 ex_5 => ?_)
  obtain rfl : v1 = x_5 := (ex_5.trans hv1).symm
  refine vp_callSi (va_Run.run (va_runV (As := [.int v1]) (rest := [.int r_3]) ⟨hx, hb, hml, hown, hts⟩ (c_X12_winner l dC dI b c1 c2 c3 c4 fk hF v1) (cwV 1 hts gv_RL_93 rfl rfl rfl (by decide +kernel) ⟨Nat.le_of_ble_eq_true rfl, Nat.le_of_ble_eq_true rfl⟩) ⟨fun a U g mk q => by obtain ⟨q0, qP, qK⟩ := q; exact ⟨q0, qP, va_K.moved (u := U) (U := U.calling g mk a) (Vm.Alike.refl U.vm) qK⟩, va_recv hKM hPM (ci := 11) (q0 := 0) rfl rfl, fun U hU hW => ⟨rfl, by rw [hU]; exact hPM, va_K.moved hW.alike hKM⟩⟩ rfl rfl hl.1 rfl (lv_room (Nat.le_of_ble_eq_true rfl)) dL_law_923 ⟨Nat.le_of_ble_eq_true rfl, Nat.le_of_ble_eq_true rfl⟩)) (fun r_6 e_6 => ?_)
  obtain rfl : r_3 = r_6 := e_3.trans e_6.symm
  refine lv_icmp_eq (tgt := 1419) hx hb dL_law_926 (by decide) (fun c_7 => ?_) (fun c_7 => absurd rfl c_7)
  refine W.widen (k := 1305) (n := 700005) (by omega) (by omega) ?_
  exact law_next C0 hS hl
set_option maxHeartbeats 4000000 in
set_option maxRecDepth 100000 in
theorem law_case_19 {p : Program} {l : Launch} {e : Env} {s : State} {m : MethodId} {below : List Frame} {meth : Method} {c : Code} {dC : Nat → ClassId} {dI : Nat → Nat → Nat} {sb : Nat} {xs : Nat → Int32} {a : Nat → Nat} {cG cT : ClassId} {ft : Nat → Option Nat} {TL : va_W} {b : Nat → Nat} {c1 c2 c3 c4 : ClassId} {fk : Nat → Int32} {H : Heap} {locs : List Loc} (C : lw_St p s m meth c dC dI sb xs a cG cT ft TL b c1 c2 c3 c4 fk H locs) {ls : Array Slot} (hl : lv_has ls 4 [(3, .int 0), (2, .ref (b 0)), (1, .ref (a 0)), (0, .ref sb)]) : W p l e room_1 s m #[Value.ref sb] below meth c H locs 1300 700000 (lw_Z below #[Value.ref sb] s) (F0 m 931 ls []) := by
  obtain ⟨C0, hT, hF, hKX, hKM, hPX, hPM, hDX, hDM, hap, hFX, hFM, hS, hCA0, hCA3, hCA5, hCA10⟩ := C
  obtain ⟨hx, hb, hr, hml, hown, hts, hX, hbl, hlocks, hgv⟩ := id C0
  have hbA : ¬ (fun q : Nat => s.heap.size ≤ q) sb := Nat.not_le.mpr hbl
  obtain ⟨v1, hv1⟩ : ∃ v, xs (1 : Int32).toNatClampNeg = v := ⟨_, rfl⟩
  obtain ⟨v2, hv2⟩ : ∃ v, xs (2 : Int32).toNatClampNeg = v := ⟨_, rfl⟩
  obtain ⟨v3, hv3⟩ : ∃ v, xs (3 : Int32).toNatClampNeg = v := ⟨_, rfl⟩
  obtain ⟨v4, hv4⟩ : ∃ v, xs (4 : Int32).toNatClampNeg = v := ⟨_, rfl⟩
  refine lv_aload_n hx hb dL_law_931 rfl (lv_at hl 2 rfl) ?_
  refine lv_aload_n hx hb dL_law_932 rfl (lv_at hl 3 rfl) ?_
  refine lv_iload_n hx hb dL_law_933 rfl (lv_at hl 0 rfl) ?_
  refine lv_iconst (v := 1) hx hb dL_law_934 (by decide) ?_
  refine lv_iadd hx hb dL_law_935 ?_
  refine lv_topi (fun x_1 ex_1 => ?_)
  obtain rfl : x_1 = 1 := ex_1.trans (by decide +kernel)
  refine va_sld hx hb hX hbl hbA hS (by unfold vp_in; decide +kernel) dL_law_936 ?_
  refine lv_topi (fun x_2 ex_2 => ?_)
  obtain rfl : v1 = x_2 := (ex_2.trans hv1).symm
  refine lv_aload_n hx hb dL_law_937 rfl (lv_at hl 3 rfl) ?_
  refine lv_iload_n hx hb dL_law_938 rfl (lv_at hl 0 rfl) ?_
  refine lv_iconst (v := 2) hx hb dL_law_939 (by decide) ?_
  refine lv_iadd hx hb dL_law_940 ?_
  refine lv_topi (fun x_3 ex_3 => ?_)
  obtain rfl : x_3 = 2 := ex_3.trans (by decide +kernel)
  refine va_sld hx hb hX hbl hbA hS (by unfold vp_in; decide +kernel) dL_law_941 ?_
  refine lv_topi (fun x_4 ex_4 => ?_)
  obtain rfl : v2 = x_4 := (ex_4.trans hv2).symm
  refine lv_aload_n hx hb dL_law_942 rfl (lv_at hl 3 rfl) ?_
  refine lv_iload_n hx hb dL_law_943 rfl (lv_at hl 0 rfl) ?_
  refine lv_iconst (v := 3) hx hb dL_law_944 (by decide) ?_
  refine lv_iadd hx hb dL_law_945 ?_
  refine lv_topi (fun x_5 ex_5 => ?_)
  obtain rfl : x_5 = 3 := ex_5.trans (by decide +kernel)
  refine va_sld hx hb hX hbl hbA hS (by unfold vp_in; decide +kernel) dL_law_946 ?_
  refine lv_topi (fun x_6 ex_6 => ?_)
  obtain rfl : v3 = x_6 := (ex_6.trans hv3).symm
  refine vp_callSi (va_Run.run (va_runV (As := [.int v1, .int v2, .int v3]) (rest := []) ⟨hx, hb, hml, hown, hts⟩ (c_X11_won l dC dI a cG cT ft TL hT v1 v2 v3) (cwV 3 hts gv_RL_94 rfl rfl rfl (by decide +kernel) ⟨Nat.le_of_ble_eq_true rfl, Nat.le_of_ble_eq_true rfl⟩) ⟨fun a U g mk q => by obtain ⟨q0, qP, qK⟩ := q; exact ⟨q0, qP, va_K.moved (u := U) (U := U.calling g mk a) (Vm.Alike.refl U.vm) qK⟩, va_recv hKX hPX (ci := 10) (q0 := 0) rfl rfl, fun U hU hW => ⟨rfl, by rw [hU]; exact hPX, va_K.moved hW.alike hKX⟩⟩ rfl rfl hl.1 rfl (lv_room (Nat.le_of_ble_eq_true rfl)) dL_law_947 ⟨Nat.le_of_ble_eq_true rfl, Nat.le_of_ble_eq_true rfl⟩)) (fun r_7 e_7 => ?_)
  refine lv_aload_n hx hb dL_law_950 rfl (lv_at hl 1 rfl) ?_
  refine lv_aload_n hx hb dL_law_951 rfl (lv_at hl 3 rfl) ?_
  refine lv_iload_n hx hb dL_law_952 rfl (lv_at hl 0 rfl) ?_
  refine lv_iconst (v := 1) hx hb dL_law_953 (by decide) ?_
  refine lv_iadd hx hb dL_law_954 ?_
  refine lv_topi (fun x_8 ex_8 => ?_)
  obtain rfl : x_8 = 1 := ex_8.trans (by decide +kernel)
  refine va_sld hx hb hX hbl hbA hS (by unfold vp_in; decide +kernel) dL_law_955 ?_
  refine lv_topi (fun x_9 ex_9 => ?_)
  obtain rfl : v1 = x_9 := (ex_9.trans hv1).symm
  refine lv_aload_n hx hb dL_law_956 rfl (lv_at hl 3 rfl) ?_
  refine lv_iload_n hx hb dL_law_957 rfl (lv_at hl 0 rfl) ?_
  refine lv_iconst (v := 2) hx hb dL_law_958 (by decide) ?_
  refine lv_iadd hx hb dL_law_959 ?_
  refine lv_topi (fun x_10 ex_10 => ?_)
  obtain rfl : x_10 = 2 := ex_10.trans (by decide +kernel)
  refine va_sld hx hb hX hbl hbA hS (by unfold vp_in; decide +kernel) dL_law_960 ?_
  refine lv_topi (fun x_11 ex_11 => ?_)
  obtain rfl : v2 = x_11 := (ex_11.trans hv2).symm
  refine lv_aload_n hx hb dL_law_961 rfl (lv_at hl 3 rfl) ?_
  refine lv_iload_n hx hb dL_law_962 rfl (lv_at hl 0 rfl) ?_
  refine lv_iconst (v := 3) hx hb dL_law_963 (by decide) ?_
  refine lv_iadd hx hb dL_law_964 ?_
  refine lv_topi (fun x_12 ex_12 => ?_)
  obtain rfl : x_12 = 3 := ex_12.trans (by decide +kernel)
  refine va_sld hx hb hX hbl hbA hS (by unfold vp_in; decide +kernel) dL_law_965 ?_
  refine lv_topi (fun x_13 ex_13 => ?_)
  obtain rfl : v3 = x_13 := (ex_13.trans hv3).symm
  refine vp_callSi (va_Run.run (va_runV (As := [.int v1, .int v2, .int v3]) (rest := [.int r_7]) ⟨hx, hb, hml, hown, hts⟩ (c_X12_won l dC dI b c1 c2 c3 c4 fk hF v1 v2 v3) (cwV 3 hts gv_RL_97 rfl rfl rfl (by decide +kernel) ⟨Nat.le_of_ble_eq_true rfl, Nat.le_of_ble_eq_true rfl⟩) ⟨fun a U g mk q => by obtain ⟨q0, qP, qK⟩ := q; exact ⟨q0, qP, va_K.moved (u := U) (U := U.calling g mk a) (Vm.Alike.refl U.vm) qK⟩, va_recv hKM hPM (ci := 11) (q0 := 0) rfl rfl, fun U hU hW => ⟨rfl, by rw [hU]; exact hPM, va_K.moved hW.alike hKM⟩⟩ rfl rfl hl.1 rfl (lv_room (Nat.le_of_ble_eq_true rfl)) dL_law_966 ⟨Nat.le_of_ble_eq_true rfl, Nat.le_of_ble_eq_true rfl⟩)) (fun r_14 e_14 => ?_)
  obtain rfl : r_7 = r_14 := e_7.trans e_14.symm
  refine lv_icmp_eq (tgt := 1419) hx hb dL_law_969 (by decide) (fun c_15 => ?_) (fun c_15 => absurd rfl c_15)
  refine W.widen (k := 1305) (n := 700005) (by omega) (by omega) ?_
  exact law_next C0 hS hl
set_option maxHeartbeats 4000000 in
set_option maxRecDepth 100000 in
theorem law_case_20 {p : Program} {l : Launch} {e : Env} {s : State} {m : MethodId} {below : List Frame} {meth : Method} {c : Code} {dC : Nat → ClassId} {dI : Nat → Nat → Nat} {sb : Nat} {xs : Nat → Int32} {a : Nat → Nat} {cG cT : ClassId} {ft : Nat → Option Nat} {TL : va_W} {b : Nat → Nat} {c1 c2 c3 c4 : ClassId} {fk : Nat → Int32} {H : Heap} {locs : List Loc} (C : lw_St p s m meth c dC dI sb xs a cG cT ft TL b c1 c2 c3 c4 fk H locs) {ls : Array Slot} (hl : lv_has ls 4 [(3, .int 0), (2, .ref (b 0)), (1, .ref (a 0)), (0, .ref sb)]) : W p l e room_1 s m #[Value.ref sb] below meth c H locs 1300 700000 (lw_Z below #[Value.ref sb] s) (F0 m 974 ls []) := by
  obtain ⟨C0, hT, hF, hKX, hKM, hPX, hPM, hDX, hDM, hap, hFX, hFM, hS, hCA0, hCA3, hCA5, hCA10⟩ := C
  obtain ⟨hx, hb, hr, hml, hown, hts, hX, hbl, hlocks, hgv⟩ := id C0
  have hbA : ¬ (fun q : Nat => s.heap.size ≤ q) sb := Nat.not_le.mpr hbl
  obtain ⟨v1, hv1⟩ : ∃ v, xs (1 : Int32).toNatClampNeg = v := ⟨_, rfl⟩
  obtain ⟨v2, hv2⟩ : ∃ v, xs (2 : Int32).toNatClampNeg = v := ⟨_, rfl⟩
  obtain ⟨v3, hv3⟩ : ∃ v, xs (3 : Int32).toNatClampNeg = v := ⟨_, rfl⟩
  obtain ⟨v4, hv4⟩ : ∃ v, xs (4 : Int32).toNatClampNeg = v := ⟨_, rfl⟩
  refine lv_aload_n hx hb dL_law_974 rfl (lv_at hl 2 rfl) ?_
  refine lv_aload_n hx hb dL_law_975 rfl (lv_at hl 3 rfl) ?_
  refine lv_iload_n hx hb dL_law_976 rfl (lv_at hl 0 rfl) ?_
  refine lv_iconst (v := 1) hx hb dL_law_977 (by decide) ?_
  refine lv_iadd hx hb dL_law_978 ?_
  refine lv_topi (fun x_1 ex_1 => ?_)
  obtain rfl : x_1 = 1 := ex_1.trans (by decide +kernel)
  refine va_sld hx hb hX hbl hbA hS (by unfold vp_in; decide +kernel) dL_law_979 ?_
  refine lv_topi (fun x_2 ex_2 => ?_)
  obtain rfl : v1 = x_2 := (ex_2.trans hv1).symm
  refine lv_aload_n hx hb dL_law_980 rfl (lv_at hl 3 rfl) ?_
  refine lv_iload_n hx hb dL_law_981 rfl (lv_at hl 0 rfl) ?_
  refine lv_iconst (v := 2) hx hb dL_law_982 (by decide) ?_
  refine lv_iadd hx hb dL_law_983 ?_
  refine lv_topi (fun x_3 ex_3 => ?_)
  obtain rfl : x_3 = 2 := ex_3.trans (by decide +kernel)
  refine va_sld hx hb hX hbl hbA hS (by unfold vp_in; decide +kernel) dL_law_984 ?_
  refine lv_topi (fun x_4 ex_4 => ?_)
  obtain rfl : v2 = x_4 := (ex_4.trans hv2).symm
  refine lv_aload_n hx hb dL_law_985 rfl (lv_at hl 3 rfl) ?_
  refine lv_iload_n hx hb dL_law_986 rfl (lv_at hl 0 rfl) ?_
  refine lv_iconst (v := 3) hx hb dL_law_987 (by decide) ?_
  refine lv_iadd hx hb dL_law_988 ?_
  refine lv_topi (fun x_5 ex_5 => ?_)
  obtain rfl : x_5 = 3 := ex_5.trans (by decide +kernel)
  refine va_sld hx hb hX hbl hbA hS (by unfold vp_in; decide +kernel) dL_law_989 ?_
  refine lv_topi (fun x_6 ex_6 => ?_)
  obtain rfl : v3 = x_6 := (ex_6.trans hv3).symm
  refine vp_callSi (va_Run.run (va_runV (As := [.int v1, .int v2, .int v3]) (rest := []) ⟨hx, hb, hml, hown, hts⟩ (c_X11_revokes l dC dI a cG cT ft TL hT v1 v2 v3) (cwV 3 hts gv_RL_98 rfl rfl rfl (by decide +kernel) ⟨Nat.le_of_ble_eq_true rfl, Nat.le_of_ble_eq_true rfl⟩) ⟨fun a U g mk q => by obtain ⟨q0, qP, qK⟩ := q; exact ⟨q0, qP, va_K.moved (u := U) (U := U.calling g mk a) (Vm.Alike.refl U.vm) qK⟩, va_recv hKX hPX (ci := 10) (q0 := 0) rfl rfl, fun U hU hW => ⟨rfl, by rw [hU]; exact hPX, va_K.moved hW.alike hKX⟩⟩ rfl rfl hl.1 rfl (lv_room (Nat.le_of_ble_eq_true rfl)) dL_law_990 ⟨Nat.le_of_ble_eq_true rfl, Nat.le_of_ble_eq_true rfl⟩)) (fun r_7 e_7 => ?_)
  refine lv_aload_n hx hb dL_law_993 rfl (lv_at hl 1 rfl) ?_
  refine lv_aload_n hx hb dL_law_994 rfl (lv_at hl 3 rfl) ?_
  refine lv_iload_n hx hb dL_law_995 rfl (lv_at hl 0 rfl) ?_
  refine lv_iconst (v := 1) hx hb dL_law_996 (by decide) ?_
  refine lv_iadd hx hb dL_law_997 ?_
  refine lv_topi (fun x_8 ex_8 => ?_)
  obtain rfl : x_8 = 1 := ex_8.trans (by decide +kernel)
  refine va_sld hx hb hX hbl hbA hS (by unfold vp_in; decide +kernel) dL_law_998 ?_
  refine lv_topi (fun x_9 ex_9 => ?_)
  obtain rfl : v1 = x_9 := (ex_9.trans hv1).symm
  refine lv_aload_n hx hb dL_law_999 rfl (lv_at hl 3 rfl) ?_
  refine lv_iload_n hx hb dL_law_1000 rfl (lv_at hl 0 rfl) ?_
  refine lv_iconst (v := 2) hx hb dL_law_1001 (by decide) ?_
  refine lv_iadd hx hb dL_law_1002 ?_
  refine lv_topi (fun x_10 ex_10 => ?_)
  obtain rfl : x_10 = 2 := ex_10.trans (by decide +kernel)
  refine va_sld hx hb hX hbl hbA hS (by unfold vp_in; decide +kernel) dL_law_1003 ?_
  refine lv_topi (fun x_11 ex_11 => ?_)
  obtain rfl : v2 = x_11 := (ex_11.trans hv2).symm
  refine lv_aload_n hx hb dL_law_1004 rfl (lv_at hl 3 rfl) ?_
  refine lv_iload_n hx hb dL_law_1005 rfl (lv_at hl 0 rfl) ?_
  refine lv_iconst (v := 3) hx hb dL_law_1006 (by decide) ?_
  refine lv_iadd hx hb dL_law_1007 ?_
  refine lv_topi (fun x_12 ex_12 => ?_)
  obtain rfl : x_12 = 3 := ex_12.trans (by decide +kernel)
  refine va_sld hx hb hX hbl hbA hS (by unfold vp_in; decide +kernel) dL_law_1008 ?_
  refine lv_topi (fun x_13 ex_13 => ?_)
  obtain rfl : v3 = x_13 := (ex_13.trans hv3).symm
  refine vp_callSi (va_Run.run (va_runV (As := [.int v1, .int v2, .int v3]) (rest := [.int r_7]) ⟨hx, hb, hml, hown, hts⟩ (c_X12_revokes l dC dI b c1 c2 c3 c4 fk hF v1 v2 v3) (cwV 3 hts gv_RL_101 rfl rfl rfl (by decide +kernel) ⟨Nat.le_of_ble_eq_true rfl, Nat.le_of_ble_eq_true rfl⟩) ⟨fun a U g mk q => by obtain ⟨q0, qP, qK⟩ := q; exact ⟨q0, qP, va_K.moved (u := U) (U := U.calling g mk a) (Vm.Alike.refl U.vm) qK⟩, va_recv hKM hPM (ci := 11) (q0 := 0) rfl rfl, fun U hU hW => ⟨rfl, by rw [hU]; exact hPM, va_K.moved hW.alike hKM⟩⟩ rfl rfl hl.1 rfl (lv_room (Nat.le_of_ble_eq_true rfl)) dL_law_1009 ⟨Nat.le_of_ble_eq_true rfl, Nat.le_of_ble_eq_true rfl⟩)) (fun r_14 e_14 => ?_)
  obtain rfl : r_7 = r_14 := e_7.trans e_14.symm
  refine lv_icmp_eq (tgt := 1419) hx hb dL_law_1012 (by decide) (fun c_15 => ?_) (fun c_15 => absurd rfl c_15)
  refine W.widen (k := 1305) (n := 700005) (by omega) (by omega) ?_
  exact law_next C0 hS hl
set_option maxHeartbeats 4000000 in
set_option maxRecDepth 100000 in
theorem law_case_21 {p : Program} {l : Launch} {e : Env} {s : State} {m : MethodId} {below : List Frame} {meth : Method} {c : Code} {dC : Nat → ClassId} {dI : Nat → Nat → Nat} {sb : Nat} {xs : Nat → Int32} {a : Nat → Nat} {cG cT : ClassId} {ft : Nat → Option Nat} {TL : va_W} {b : Nat → Nat} {c1 c2 c3 c4 : ClassId} {fk : Nat → Int32} {H : Heap} {locs : List Loc} (C : lw_St p s m meth c dC dI sb xs a cG cT ft TL b c1 c2 c3 c4 fk H locs) {ls : Array Slot} (hl : lv_has ls 4 [(3, .int 0), (2, .ref (b 0)), (1, .ref (a 0)), (0, .ref sb)]) : W p l e room_1 s m #[Value.ref sb] below meth c H locs 1300 700000 (lw_Z below #[Value.ref sb] s) (F0 m 1017 ls []) := by
  obtain ⟨C0, hT, hF, hKX, hKM, hPX, hPM, hDX, hDM, hap, hFX, hFM, hS, hCA0, hCA3, hCA5, hCA10⟩ := C
  obtain ⟨hx, hb, hr, hml, hown, hts, hX, hbl, hlocks, hgv⟩ := id C0
  have hbA : ¬ (fun q : Nat => s.heap.size ≤ q) sb := Nat.not_le.mpr hbl
  obtain ⟨v1, hv1⟩ : ∃ v, xs (1 : Int32).toNatClampNeg = v := ⟨_, rfl⟩
  obtain ⟨v2, hv2⟩ : ∃ v, xs (2 : Int32).toNatClampNeg = v := ⟨_, rfl⟩
  obtain ⟨v3, hv3⟩ : ∃ v, xs (3 : Int32).toNatClampNeg = v := ⟨_, rfl⟩
  obtain ⟨v4, hv4⟩ : ∃ v, xs (4 : Int32).toNatClampNeg = v := ⟨_, rfl⟩
  refine lv_aload_n hx hb dL_law_1017 rfl (lv_at hl 2 rfl) ?_
  refine lv_aload_n hx hb dL_law_1018 rfl (lv_at hl 3 rfl) ?_
  refine lv_iload_n hx hb dL_law_1019 rfl (lv_at hl 0 rfl) ?_
  refine lv_iconst (v := 1) hx hb dL_law_1020 (by decide) ?_
  refine lv_iadd hx hb dL_law_1021 ?_
  refine lv_topi (fun x_1 ex_1 => ?_)
  obtain rfl : x_1 = 1 := ex_1.trans (by decide +kernel)
  refine va_sld hx hb hX hbl hbA hS (by unfold vp_in; decide +kernel) dL_law_1022 ?_
  refine lv_topi (fun x_2 ex_2 => ?_)
  obtain rfl : v1 = x_2 := (ex_2.trans hv1).symm
  refine lv_aload_n hx hb dL_law_1023 rfl (lv_at hl 3 rfl) ?_
  refine lv_iload_n hx hb dL_law_1024 rfl (lv_at hl 0 rfl) ?_
  refine lv_iconst (v := 2) hx hb dL_law_1025 (by decide) ?_
  refine lv_iadd hx hb dL_law_1026 ?_
  refine lv_topi (fun x_3 ex_3 => ?_)
  obtain rfl : x_3 = 2 := ex_3.trans (by decide +kernel)
  refine va_sld hx hb hX hbl hbA hS (by unfold vp_in; decide +kernel) dL_law_1027 ?_
  refine lv_topi (fun x_4 ex_4 => ?_)
  obtain rfl : v2 = x_4 := (ex_4.trans hv2).symm
  refine vp_callSi (va_Run.run (va_runV (As := [.int v1, .int v2]) (rest := []) ⟨hx, hb, hml, hown, hts⟩ (c_X11_sum l dC dI a cG cT ft TL hT v1 v2) (cwV 2 hts gv_RL_102 rfl rfl rfl (by decide +kernel) ⟨Nat.le_of_ble_eq_true rfl, Nat.le_of_ble_eq_true rfl⟩) ⟨fun a U g mk q => by obtain ⟨q0, qP, qK⟩ := q; exact ⟨q0, qP, va_K.moved (u := U) (U := U.calling g mk a) (Vm.Alike.refl U.vm) qK⟩, va_recv hKX hPX (ci := 10) (q0 := 0) rfl rfl, fun U hU hW => ⟨rfl, by rw [hU]; exact hPX, va_K.moved hW.alike hKX⟩⟩ rfl rfl hl.1 rfl (lv_room (Nat.le_of_ble_eq_true rfl)) dL_law_1028 ⟨Nat.le_of_ble_eq_true rfl, Nat.le_of_ble_eq_true rfl⟩)) (fun r_5 e_5 => ?_)
  refine lv_aload_n hx hb dL_law_1031 rfl (lv_at hl 1 rfl) ?_
  refine lv_aload_n hx hb dL_law_1032 rfl (lv_at hl 3 rfl) ?_
  refine lv_iload_n hx hb dL_law_1033 rfl (lv_at hl 0 rfl) ?_
  refine lv_iconst (v := 1) hx hb dL_law_1034 (by decide) ?_
  refine lv_iadd hx hb dL_law_1035 ?_
  refine lv_topi (fun x_6 ex_6 => ?_)
  obtain rfl : x_6 = 1 := ex_6.trans (by decide +kernel)
  refine va_sld hx hb hX hbl hbA hS (by unfold vp_in; decide +kernel) dL_law_1036 ?_
  refine lv_topi (fun x_7 ex_7 => ?_)
  obtain rfl : v1 = x_7 := (ex_7.trans hv1).symm
  refine lv_aload_n hx hb dL_law_1037 rfl (lv_at hl 3 rfl) ?_
  refine lv_iload_n hx hb dL_law_1038 rfl (lv_at hl 0 rfl) ?_
  refine lv_iconst (v := 2) hx hb dL_law_1039 (by decide) ?_
  refine lv_iadd hx hb dL_law_1040 ?_
  refine lv_topi (fun x_8 ex_8 => ?_)
  obtain rfl : x_8 = 2 := ex_8.trans (by decide +kernel)
  refine va_sld hx hb hX hbl hbA hS (by unfold vp_in; decide +kernel) dL_law_1041 ?_
  refine lv_topi (fun x_9 ex_9 => ?_)
  obtain rfl : v2 = x_9 := (ex_9.trans hv2).symm
  refine vp_callSi (va_Run.run (va_runV (As := [.int v1, .int v2]) (rest := [.int r_5]) ⟨hx, hb, hml, hown, hts⟩ (c_X12_sum l dC dI b c1 c2 c3 c4 fk hF v1 v2) (cwV 2 hts gv_RL_105 rfl rfl rfl (by decide +kernel) ⟨Nat.le_of_ble_eq_true rfl, Nat.le_of_ble_eq_true rfl⟩) ⟨fun a U g mk q => by obtain ⟨q0, qP, qK⟩ := q; exact ⟨q0, qP, va_K.moved (u := U) (U := U.calling g mk a) (Vm.Alike.refl U.vm) qK⟩, va_recv hKM hPM (ci := 11) (q0 := 0) rfl rfl, fun U hU hW => ⟨rfl, by rw [hU]; exact hPM, va_K.moved hW.alike hKM⟩⟩ rfl rfl hl.1 rfl (lv_room (Nat.le_of_ble_eq_true rfl)) dL_law_1042 ⟨Nat.le_of_ble_eq_true rfl, Nat.le_of_ble_eq_true rfl⟩)) (fun r_10 e_10 => ?_)
  obtain rfl : r_5 = r_10 := e_5.trans e_10.symm
  refine lv_icmp_eq (tgt := 1419) hx hb dL_law_1045 (by decide) (fun c_11 => ?_) (fun c_11 => absurd rfl c_11)
  refine W.widen (k := 1305) (n := 700005) (by omega) (by omega) ?_
  exact law_next C0 hS hl
set_option maxHeartbeats 4000000 in
set_option maxRecDepth 100000 in
theorem law_case_22 {p : Program} {l : Launch} {e : Env} {s : State} {m : MethodId} {below : List Frame} {meth : Method} {c : Code} {dC : Nat → ClassId} {dI : Nat → Nat → Nat} {sb : Nat} {xs : Nat → Int32} {a : Nat → Nat} {cG cT : ClassId} {ft : Nat → Option Nat} {TL : va_W} {b : Nat → Nat} {c1 c2 c3 c4 : ClassId} {fk : Nat → Int32} {H : Heap} {locs : List Loc} (C : lw_St p s m meth c dC dI sb xs a cG cT ft TL b c1 c2 c3 c4 fk H locs) {ls : Array Slot} (hl : lv_has ls 4 [(3, .int 0), (2, .ref (b 0)), (1, .ref (a 0)), (0, .ref sb)]) : W p l e room_1 s m #[Value.ref sb] below meth c H locs 1300 700000 (lw_Z below #[Value.ref sb] s) (F0 m 1050 ls []) := by
  obtain ⟨C0, hT, hF, hKX, hKM, hPX, hPM, hDX, hDM, hap, hFX, hFM, hS, hCA0, hCA3, hCA5, hCA10⟩ := C
  obtain ⟨hx, hb, hr, hml, hown, hts, hX, hbl, hlocks, hgv⟩ := id C0
  have hbA : ¬ (fun q : Nat => s.heap.size ≤ q) sb := Nat.not_le.mpr hbl
  obtain ⟨v1, hv1⟩ : ∃ v, xs (1 : Int32).toNatClampNeg = v := ⟨_, rfl⟩
  obtain ⟨v2, hv2⟩ : ∃ v, xs (2 : Int32).toNatClampNeg = v := ⟨_, rfl⟩
  obtain ⟨v3, hv3⟩ : ∃ v, xs (3 : Int32).toNatClampNeg = v := ⟨_, rfl⟩
  obtain ⟨v4, hv4⟩ : ∃ v, xs (4 : Int32).toNatClampNeg = v := ⟨_, rfl⟩
  refine lv_aload_n hx hb dL_law_1050 rfl (lv_at hl 2 rfl) ?_
  refine lv_aload_n hx hb dL_law_1051 rfl (lv_at hl 3 rfl) ?_
  refine lv_iload_n hx hb dL_law_1052 rfl (lv_at hl 0 rfl) ?_
  refine lv_iconst (v := 1) hx hb dL_law_1053 (by decide) ?_
  refine lv_iadd hx hb dL_law_1054 ?_
  refine lv_topi (fun x_1 ex_1 => ?_)
  obtain rfl : x_1 = 1 := ex_1.trans (by decide +kernel)
  refine va_sld hx hb hX hbl hbA hS (by unfold vp_in; decide +kernel) dL_law_1055 ?_
  refine lv_topi (fun x_2 ex_2 => ?_)
  obtain rfl : v1 = x_2 := (ex_2.trans hv1).symm
  refine vp_callSi (va_Run.run (va_runV (As := [.int v1]) (rest := []) ⟨hx, hb, hml, hown, hts⟩ (c_X11_tie l dC dI a cG cT ft TL hT v1) (cwV 1 hts gv_RL_106 rfl rfl rfl (by decide +kernel) ⟨Nat.le_of_ble_eq_true rfl, Nat.le_of_ble_eq_true rfl⟩) ⟨fun a U g mk q => by obtain ⟨q0, qP, qK⟩ := q; exact ⟨q0, qP, va_K.moved (u := U) (U := U.calling g mk a) (Vm.Alike.refl U.vm) qK⟩, va_recv hKX hPX (ci := 10) (q0 := 0) rfl rfl, fun U hU hW => ⟨rfl, by rw [hU]; exact hPX, va_K.moved hW.alike hKX⟩⟩ rfl rfl hl.1 rfl (lv_room (Nat.le_of_ble_eq_true rfl)) dL_law_1056 ⟨Nat.le_of_ble_eq_true rfl, Nat.le_of_ble_eq_true rfl⟩)) (fun r_3 e_3 => ?_)
  refine lv_aload_n hx hb dL_law_1059 rfl (lv_at hl 1 rfl) ?_
  refine lv_aload_n hx hb dL_law_1060 rfl (lv_at hl 3 rfl) ?_
  refine lv_iload_n hx hb dL_law_1061 rfl (lv_at hl 0 rfl) ?_
  refine lv_iconst (v := 1) hx hb dL_law_1062 (by decide) ?_
  refine lv_iadd hx hb dL_law_1063 ?_
  refine lv_topi (fun x_4 ex_4 => ?_)
  obtain rfl : x_4 = 1 := ex_4.trans (by decide +kernel)
  refine va_sld hx hb hX hbl hbA hS (by unfold vp_in; decide +kernel) dL_law_1064 ?_
  refine lv_topi (fun x_5 ex_5 => ?_)
  obtain rfl : v1 = x_5 := (ex_5.trans hv1).symm
  refine vp_callSi (va_Run.run (va_runV (As := [.int v1]) (rest := [.int r_3]) ⟨hx, hb, hml, hown, hts⟩ (c_X12_tie l dC dI b c1 c2 c3 c4 fk hF v1) (cwV 1 hts gv_RL_109 rfl rfl rfl (by decide +kernel) ⟨Nat.le_of_ble_eq_true rfl, Nat.le_of_ble_eq_true rfl⟩) ⟨fun a U g mk q => by obtain ⟨q0, qP, qK⟩ := q; exact ⟨q0, qP, va_K.moved (u := U) (U := U.calling g mk a) (Vm.Alike.refl U.vm) qK⟩, va_recv hKM hPM (ci := 11) (q0 := 0) rfl rfl, fun U hU hW => ⟨rfl, by rw [hU]; exact hPM, va_K.moved hW.alike hKM⟩⟩ rfl rfl hl.1 rfl (lv_room (Nat.le_of_ble_eq_true rfl)) dL_law_1065 ⟨Nat.le_of_ble_eq_true rfl, Nat.le_of_ble_eq_true rfl⟩)) (fun r_6 e_6 => ?_)
  obtain rfl : r_3 = r_6 := e_3.trans e_6.symm
  refine lv_icmp_eq (tgt := 1419) hx hb dL_law_1068 (by decide) (fun c_7 => ?_) (fun c_7 => absurd rfl c_7)
  refine W.widen (k := 1305) (n := 700005) (by omega) (by omega) ?_
  exact law_next C0 hS hl
set_option maxHeartbeats 4000000 in
set_option maxRecDepth 100000 in
theorem law_case_23 {p : Program} {l : Launch} {e : Env} {s : State} {m : MethodId} {below : List Frame} {meth : Method} {c : Code} {dC : Nat → ClassId} {dI : Nat → Nat → Nat} {sb : Nat} {xs : Nat → Int32} {a : Nat → Nat} {cG cT : ClassId} {ft : Nat → Option Nat} {TL : va_W} {b : Nat → Nat} {c1 c2 c3 c4 : ClassId} {fk : Nat → Int32} {H : Heap} {locs : List Loc} (C : lw_St p s m meth c dC dI sb xs a cG cT ft TL b c1 c2 c3 c4 fk H locs) {ls : Array Slot} (hl : lv_has ls 4 [(3, .int 0), (2, .ref (b 0)), (1, .ref (a 0)), (0, .ref sb)]) : W p l e room_1 s m #[Value.ref sb] below meth c H locs 1300 700000 (lw_Z below #[Value.ref sb] s) (F0 m 1073 ls []) := by
  obtain ⟨C0, hT, hF, hKX, hKM, hPX, hPM, hDX, hDM, hap, hFX, hFM, hS, hCA0, hCA3, hCA5, hCA10⟩ := C
  obtain ⟨hx, hb, hr, hml, hown, hts, hX, hbl, hlocks, hgv⟩ := id C0
  have hbA : ¬ (fun q : Nat => s.heap.size ≤ q) sb := Nat.not_le.mpr hbl
  obtain ⟨v1, hv1⟩ : ∃ v, xs (1 : Int32).toNatClampNeg = v := ⟨_, rfl⟩
  obtain ⟨v2, hv2⟩ : ∃ v, xs (2 : Int32).toNatClampNeg = v := ⟨_, rfl⟩
  obtain ⟨v3, hv3⟩ : ∃ v, xs (3 : Int32).toNatClampNeg = v := ⟨_, rfl⟩
  obtain ⟨v4, hv4⟩ : ∃ v, xs (4 : Int32).toNatClampNeg = v := ⟨_, rfl⟩
  refine lv_aload_n hx hb dL_law_1073 rfl (lv_at hl 2 rfl) ?_
  refine lv_aload_n hx hb dL_law_1074 rfl (lv_at hl 3 rfl) ?_
  refine lv_iload_n hx hb dL_law_1075 rfl (lv_at hl 0 rfl) ?_
  refine lv_iconst (v := 1) hx hb dL_law_1076 (by decide) ?_
  refine lv_iadd hx hb dL_law_1077 ?_
  refine lv_topi (fun x_1 ex_1 => ?_)
  obtain rfl : x_1 = 1 := ex_1.trans (by decide +kernel)
  refine va_sld hx hb hX hbl hbA hS (by unfold vp_in; decide +kernel) dL_law_1078 ?_
  refine lv_topi (fun x_2 ex_2 => ?_)
  obtain rfl : v1 = x_2 := (ex_2.trans hv1).symm
  refine lv_aload_n hx hb dL_law_1079 rfl (lv_at hl 3 rfl) ?_
  refine lv_iload_n hx hb dL_law_1080 rfl (lv_at hl 0 rfl) ?_
  refine lv_iconst (v := 2) hx hb dL_law_1081 (by decide) ?_
  refine lv_iadd hx hb dL_law_1082 ?_
  refine lv_topi (fun x_3 ex_3 => ?_)
  obtain rfl : x_3 = 2 := ex_3.trans (by decide +kernel)
  refine va_sld hx hb hX hbl hbA hS (by unfold vp_in; decide +kernel) dL_law_1083 ?_
  refine lv_topi (fun x_4 ex_4 => ?_)
  obtain rfl : v2 = x_4 := (ex_4.trans hv2).symm
  refine vp_callSi (va_Run.run (va_runV (As := [.int v1, .int v2]) (rest := []) ⟨hx, hb, hml, hown, hts⟩ (c_X11_best l dC dI a cG cT ft TL hT v1 v2) (cwV 2 hts gv_RL_110 rfl rfl rfl (by decide +kernel) ⟨Nat.le_of_ble_eq_true rfl, Nat.le_of_ble_eq_true rfl⟩) ⟨fun a U g mk q => by obtain ⟨q0, qP, qK⟩ := q; exact ⟨q0, qP, va_K.moved (u := U) (U := U.calling g mk a) (Vm.Alike.refl U.vm) qK⟩, va_recv hKX hPX (ci := 10) (q0 := 0) rfl rfl, fun U hU hW => ⟨rfl, by rw [hU]; exact hPX, va_K.moved hW.alike hKX⟩⟩ rfl rfl hl.1 rfl (lv_room (Nat.le_of_ble_eq_true rfl)) dL_law_1084 ⟨Nat.le_of_ble_eq_true rfl, Nat.le_of_ble_eq_true rfl⟩)) (fun r_5 e_5 => ?_)
  refine lv_aload_n hx hb dL_law_1087 rfl (lv_at hl 1 rfl) ?_
  refine lv_aload_n hx hb dL_law_1088 rfl (lv_at hl 3 rfl) ?_
  refine lv_iload_n hx hb dL_law_1089 rfl (lv_at hl 0 rfl) ?_
  refine lv_iconst (v := 1) hx hb dL_law_1090 (by decide) ?_
  refine lv_iadd hx hb dL_law_1091 ?_
  refine lv_topi (fun x_6 ex_6 => ?_)
  obtain rfl : x_6 = 1 := ex_6.trans (by decide +kernel)
  refine va_sld hx hb hX hbl hbA hS (by unfold vp_in; decide +kernel) dL_law_1092 ?_
  refine lv_topi (fun x_7 ex_7 => ?_)
  obtain rfl : v1 = x_7 := (ex_7.trans hv1).symm
  refine lv_aload_n hx hb dL_law_1093 rfl (lv_at hl 3 rfl) ?_
  refine lv_iload_n hx hb dL_law_1094 rfl (lv_at hl 0 rfl) ?_
  refine lv_iconst (v := 2) hx hb dL_law_1095 (by decide) ?_
  refine lv_iadd hx hb dL_law_1096 ?_
  refine lv_topi (fun x_8 ex_8 => ?_)
  obtain rfl : x_8 = 2 := ex_8.trans (by decide +kernel)
  refine va_sld hx hb hX hbl hbA hS (by unfold vp_in; decide +kernel) dL_law_1097 ?_
  refine lv_topi (fun x_9 ex_9 => ?_)
  obtain rfl : v2 = x_9 := (ex_9.trans hv2).symm
  refine vp_callSi (va_Run.run (va_runV (As := [.int v1, .int v2]) (rest := [.int r_5]) ⟨hx, hb, hml, hown, hts⟩ (c_X12_best l dC dI b c1 c2 c3 c4 fk hF v1 v2) (cwV 2 hts gv_RL_113 rfl rfl rfl (by decide +kernel) ⟨Nat.le_of_ble_eq_true rfl, Nat.le_of_ble_eq_true rfl⟩) ⟨fun a U g mk q => by obtain ⟨q0, qP, qK⟩ := q; exact ⟨q0, qP, va_K.moved (u := U) (U := U.calling g mk a) (Vm.Alike.refl U.vm) qK⟩, va_recv hKM hPM (ci := 11) (q0 := 0) rfl rfl, fun U hU hW => ⟨rfl, by rw [hU]; exact hPM, va_K.moved hW.alike hKM⟩⟩ rfl rfl hl.1 rfl (lv_room (Nat.le_of_ble_eq_true rfl)) dL_law_1098 ⟨Nat.le_of_ble_eq_true rfl, Nat.le_of_ble_eq_true rfl⟩)) (fun r_10 e_10 => ?_)
  obtain rfl : r_5 = r_10 := e_5.trans e_10.symm
  refine lv_icmp_eq (tgt := 1419) hx hb dL_law_1101 (by decide) (fun c_11 => ?_) (fun c_11 => absurd rfl c_11)
  refine W.widen (k := 1305) (n := 700005) (by omega) (by omega) ?_
  exact law_next C0 hS hl
set_option maxHeartbeats 4000000 in
set_option maxRecDepth 100000 in
theorem law_case_24 {p : Program} {l : Launch} {e : Env} {s : State} {m : MethodId} {below : List Frame} {meth : Method} {c : Code} {dC : Nat → ClassId} {dI : Nat → Nat → Nat} {sb : Nat} {xs : Nat → Int32} {a : Nat → Nat} {cG cT : ClassId} {ft : Nat → Option Nat} {TL : va_W} {b : Nat → Nat} {c1 c2 c3 c4 : ClassId} {fk : Nat → Int32} {H : Heap} {locs : List Loc} (C : lw_St p s m meth c dC dI sb xs a cG cT ft TL b c1 c2 c3 c4 fk H locs) {ls : Array Slot} (hl : lv_has ls 4 [(3, .int 0), (2, .ref (b 0)), (1, .ref (a 0)), (0, .ref sb)]) : W p l e room_1 s m #[Value.ref sb] below meth c H locs 1300 700000 (lw_Z below #[Value.ref sb] s) (F0 m 1106 ls []) := by
  obtain ⟨C0, hT, hF, hKX, hKM, hPX, hPM, hDX, hDM, hap, hFX, hFM, hS, hCA0, hCA3, hCA5, hCA10⟩ := C
  obtain ⟨hx, hb, hr, hml, hown, hts, hX, hbl, hlocks, hgv⟩ := id C0
  have hbA : ¬ (fun q : Nat => s.heap.size ≤ q) sb := Nat.not_le.mpr hbl
  obtain ⟨v1, hv1⟩ : ∃ v, xs (1 : Int32).toNatClampNeg = v := ⟨_, rfl⟩
  obtain ⟨v2, hv2⟩ : ∃ v, xs (2 : Int32).toNatClampNeg = v := ⟨_, rfl⟩
  obtain ⟨v3, hv3⟩ : ∃ v, xs (3 : Int32).toNatClampNeg = v := ⟨_, rfl⟩
  obtain ⟨v4, hv4⟩ : ∃ v, xs (4 : Int32).toNatClampNeg = v := ⟨_, rfl⟩
  refine lv_aload_n hx hb dL_law_1106 rfl (lv_at hl 2 rfl) ?_
  refine lv_aload_n hx hb dL_law_1107 rfl (lv_at hl 3 rfl) ?_
  refine lv_iload_n hx hb dL_law_1108 rfl (lv_at hl 0 rfl) ?_
  refine lv_iconst (v := 1) hx hb dL_law_1109 (by decide) ?_
  refine lv_iadd hx hb dL_law_1110 ?_
  refine lv_topi (fun x_1 ex_1 => ?_)
  obtain rfl : x_1 = 1 := ex_1.trans (by decide +kernel)
  refine va_sld hx hb hX hbl hbA hS (by unfold vp_in; decide +kernel) dL_law_1111 ?_
  refine lv_topi (fun x_2 ex_2 => ?_)
  obtain rfl : v1 = x_2 := (ex_2.trans hv1).symm
  refine lv_aload_n hx hb dL_law_1112 rfl (lv_at hl 3 rfl) ?_
  refine lv_iload_n hx hb dL_law_1113 rfl (lv_at hl 0 rfl) ?_
  refine lv_iconst (v := 2) hx hb dL_law_1114 (by decide) ?_
  refine lv_iadd hx hb dL_law_1115 ?_
  refine lv_topi (fun x_3 ex_3 => ?_)
  obtain rfl : x_3 = 2 := ex_3.trans (by decide +kernel)
  refine va_sld hx hb hX hbl hbA hS (by unfold vp_in; decide +kernel) dL_law_1116 ?_
  refine lv_topi (fun x_4 ex_4 => ?_)
  obtain rfl : v2 = x_4 := (ex_4.trans hv2).symm
  refine lv_aload_n hx hb dL_law_1117 rfl (lv_at hl 3 rfl) ?_
  refine lv_iload_n hx hb dL_law_1118 rfl (lv_at hl 0 rfl) ?_
  refine lv_iconst (v := 3) hx hb dL_law_1119 (by decide) ?_
  refine lv_iadd hx hb dL_law_1120 ?_
  refine lv_topi (fun x_5 ex_5 => ?_)
  obtain rfl : x_5 = 3 := ex_5.trans (by decide +kernel)
  refine va_sld hx hb hX hbl hbA hS (by unfold vp_in; decide +kernel) dL_law_1121 ?_
  refine lv_topi (fun x_6 ex_6 => ?_)
  obtain rfl : v3 = x_6 := (ex_6.trans hv3).symm
  refine vp_callSi (va_Run.run (va_runV (As := [.int v1, .int v2, .int v3]) (rest := []) ⟨hx, hb, hml, hown, hts⟩ (c_X11_line l dC dI a cG cT ft TL hT v1 v2 v3) (cwV 3 hts gv_RL_114 rfl rfl rfl (by decide +kernel) ⟨Nat.le_of_ble_eq_true rfl, Nat.le_of_ble_eq_true rfl⟩) ⟨fun a U g mk q => by obtain ⟨q0, qP, qK⟩ := q; exact ⟨q0, qP, va_K.moved (u := U) (U := U.calling g mk a) (Vm.Alike.refl U.vm) qK⟩, va_recv hKX hPX (ci := 10) (q0 := 0) rfl rfl, fun U hU hW => ⟨rfl, by rw [hU]; exact hPX, va_K.moved hW.alike hKX⟩⟩ rfl rfl hl.1 rfl (lv_room (Nat.le_of_ble_eq_true rfl)) dL_law_1122 ⟨Nat.le_of_ble_eq_true rfl, Nat.le_of_ble_eq_true rfl⟩)) (fun r_7 e_7 => ?_)
  refine lv_aload_n hx hb dL_law_1125 rfl (lv_at hl 1 rfl) ?_
  refine lv_aload_n hx hb dL_law_1126 rfl (lv_at hl 3 rfl) ?_
  refine lv_iload_n hx hb dL_law_1127 rfl (lv_at hl 0 rfl) ?_
  refine lv_iconst (v := 1) hx hb dL_law_1128 (by decide) ?_
  refine lv_iadd hx hb dL_law_1129 ?_
  refine lv_topi (fun x_8 ex_8 => ?_)
  obtain rfl : x_8 = 1 := ex_8.trans (by decide +kernel)
  refine va_sld hx hb hX hbl hbA hS (by unfold vp_in; decide +kernel) dL_law_1130 ?_
  refine lv_topi (fun x_9 ex_9 => ?_)
  obtain rfl : v1 = x_9 := (ex_9.trans hv1).symm
  refine lv_aload_n hx hb dL_law_1131 rfl (lv_at hl 3 rfl) ?_
  refine lv_iload_n hx hb dL_law_1132 rfl (lv_at hl 0 rfl) ?_
  refine lv_iconst (v := 2) hx hb dL_law_1133 (by decide) ?_
  refine lv_iadd hx hb dL_law_1134 ?_
  refine lv_topi (fun x_10 ex_10 => ?_)
  obtain rfl : x_10 = 2 := ex_10.trans (by decide +kernel)
  refine va_sld hx hb hX hbl hbA hS (by unfold vp_in; decide +kernel) dL_law_1135 ?_
  refine lv_topi (fun x_11 ex_11 => ?_)
  obtain rfl : v2 = x_11 := (ex_11.trans hv2).symm
  refine lv_aload_n hx hb dL_law_1136 rfl (lv_at hl 3 rfl) ?_
  refine lv_iload_n hx hb dL_law_1137 rfl (lv_at hl 0 rfl) ?_
  refine lv_iconst (v := 3) hx hb dL_law_1138 (by decide) ?_
  refine lv_iadd hx hb dL_law_1139 ?_
  refine lv_topi (fun x_12 ex_12 => ?_)
  obtain rfl : x_12 = 3 := ex_12.trans (by decide +kernel)
  refine va_sld hx hb hX hbl hbA hS (by unfold vp_in; decide +kernel) dL_law_1140 ?_
  refine lv_topi (fun x_13 ex_13 => ?_)
  obtain rfl : v3 = x_13 := (ex_13.trans hv3).symm
  refine vp_callSi (va_Run.run (va_runV (As := [.int v1, .int v2, .int v3]) (rest := [.int r_7]) ⟨hx, hb, hml, hown, hts⟩ (c_X12_line l dC dI b c1 c2 c3 c4 fk hF v1 v2 v3) (cwV 3 hts gv_RL_117 rfl rfl rfl (by decide +kernel) ⟨Nat.le_of_ble_eq_true rfl, Nat.le_of_ble_eq_true rfl⟩) ⟨fun a U g mk q => by obtain ⟨q0, qP, qK⟩ := q; exact ⟨q0, qP, va_K.moved (u := U) (U := U.calling g mk a) (Vm.Alike.refl U.vm) qK⟩, va_recv hKM hPM (ci := 11) (q0 := 0) rfl rfl, fun U hU hW => ⟨rfl, by rw [hU]; exact hPM, va_K.moved hW.alike hKM⟩⟩ rfl rfl hl.1 rfl (lv_room (Nat.le_of_ble_eq_true rfl)) dL_law_1141 ⟨Nat.le_of_ble_eq_true rfl, Nat.le_of_ble_eq_true rfl⟩)) (fun r_14 e_14 => ?_)
  obtain rfl : r_7 = r_14 := e_7.trans e_14.symm
  refine lv_icmp_eq (tgt := 1419) hx hb dL_law_1144 (by decide) (fun c_15 => ?_) (fun c_15 => absurd rfl c_15)
  refine W.widen (k := 1305) (n := 700005) (by omega) (by omega) ?_
  exact law_next C0 hS hl
set_option maxHeartbeats 4000000 in
set_option maxRecDepth 100000 in
theorem law_case_25 {p : Program} {l : Launch} {e : Env} {s : State} {m : MethodId} {below : List Frame} {meth : Method} {c : Code} {dC : Nat → ClassId} {dI : Nat → Nat → Nat} {sb : Nat} {xs : Nat → Int32} {a : Nat → Nat} {cG cT : ClassId} {ft : Nat → Option Nat} {TL : va_W} {b : Nat → Nat} {c1 c2 c3 c4 : ClassId} {fk : Nat → Int32} {H : Heap} {locs : List Loc} (C : lw_St p s m meth c dC dI sb xs a cG cT ft TL b c1 c2 c3 c4 fk H locs) {ls : Array Slot} (hl : lv_has ls 4 [(3, .int 0), (2, .ref (b 0)), (1, .ref (a 0)), (0, .ref sb)]) : W p l e room_1 s m #[Value.ref sb] below meth c H locs 1300 700000 (lw_Z below #[Value.ref sb] s) (F0 m 1149 ls []) := by
  obtain ⟨C0, hT, hF, hKX, hKM, hPX, hPM, hDX, hDM, hap, hFX, hFM, hS, hCA0, hCA3, hCA5, hCA10⟩ := C
  obtain ⟨hx, hb, hr, hml, hown, hts, hX, hbl, hlocks, hgv⟩ := id C0
  have hbA : ¬ (fun q : Nat => s.heap.size ≤ q) sb := Nat.not_le.mpr hbl
  obtain ⟨v1, hv1⟩ : ∃ v, xs (1 : Int32).toNatClampNeg = v := ⟨_, rfl⟩
  obtain ⟨v2, hv2⟩ : ∃ v, xs (2 : Int32).toNatClampNeg = v := ⟨_, rfl⟩
  obtain ⟨v3, hv3⟩ : ∃ v, xs (3 : Int32).toNatClampNeg = v := ⟨_, rfl⟩
  obtain ⟨v4, hv4⟩ : ∃ v, xs (4 : Int32).toNatClampNeg = v := ⟨_, rfl⟩
  refine lv_aload_n hx hb dL_law_1149 rfl (lv_at hl 2 rfl) ?_
  refine lv_aload_n hx hb dL_law_1150 rfl (lv_at hl 3 rfl) ?_
  refine lv_iload_n hx hb dL_law_1151 rfl (lv_at hl 0 rfl) ?_
  refine lv_iconst (v := 1) hx hb dL_law_1152 (by decide) ?_
  refine lv_iadd hx hb dL_law_1153 ?_
  refine lv_topi (fun x_1 ex_1 => ?_)
  obtain rfl : x_1 = 1 := ex_1.trans (by decide +kernel)
  refine va_sld hx hb hX hbl hbA hS (by unfold vp_in; decide +kernel) dL_law_1154 ?_
  refine lv_topi (fun x_2 ex_2 => ?_)
  obtain rfl : v1 = x_2 := (ex_2.trans hv1).symm
  refine lv_aload_n hx hb dL_law_1155 rfl (lv_at hl 3 rfl) ?_
  refine lv_iload_n hx hb dL_law_1156 rfl (lv_at hl 0 rfl) ?_
  refine lv_iconst (v := 2) hx hb dL_law_1157 (by decide) ?_
  refine lv_iadd hx hb dL_law_1158 ?_
  refine lv_topi (fun x_3 ex_3 => ?_)
  obtain rfl : x_3 = 2 := ex_3.trans (by decide +kernel)
  refine va_sld hx hb hX hbl hbA hS (by unfold vp_in; decide +kernel) dL_law_1159 ?_
  refine lv_topi (fun x_4 ex_4 => ?_)
  obtain rfl : v2 = x_4 := (ex_4.trans hv2).symm
  refine vp_callSi (va_Run.run (va_runV (As := [.int v1, .int v2]) (rest := []) ⟨hx, hb, hml, hown, hts⟩ (c_X11_check l dC dI a cG cT ft TL hT v1 v2) (cwV 2 hts gv_RL_118 rfl rfl rfl (by decide +kernel) ⟨Nat.le_of_ble_eq_true rfl, Nat.le_of_ble_eq_true rfl⟩) ⟨fun a U g mk q => by obtain ⟨q0, qP, qK⟩ := q; exact ⟨q0, qP, va_K.moved (u := U) (U := U.calling g mk a) (Vm.Alike.refl U.vm) qK⟩, va_recv hKX hPX (ci := 10) (q0 := 0) rfl rfl, fun U hU hW => ⟨rfl, by rw [hU]; exact hPX, va_K.moved hW.alike hKX⟩⟩ rfl rfl hl.1 rfl (lv_room (Nat.le_of_ble_eq_true rfl)) dL_law_1160 ⟨Nat.le_of_ble_eq_true rfl, Nat.le_of_ble_eq_true rfl⟩)) (fun r_5 e_5 => ?_)
  refine lv_aload_n hx hb dL_law_1163 rfl (lv_at hl 1 rfl) ?_
  refine lv_aload_n hx hb dL_law_1164 rfl (lv_at hl 3 rfl) ?_
  refine lv_iload_n hx hb dL_law_1165 rfl (lv_at hl 0 rfl) ?_
  refine lv_iconst (v := 1) hx hb dL_law_1166 (by decide) ?_
  refine lv_iadd hx hb dL_law_1167 ?_
  refine lv_topi (fun x_6 ex_6 => ?_)
  obtain rfl : x_6 = 1 := ex_6.trans (by decide +kernel)
  refine va_sld hx hb hX hbl hbA hS (by unfold vp_in; decide +kernel) dL_law_1168 ?_
  refine lv_topi (fun x_7 ex_7 => ?_)
  obtain rfl : v1 = x_7 := (ex_7.trans hv1).symm
  refine lv_aload_n hx hb dL_law_1169 rfl (lv_at hl 3 rfl) ?_
  refine lv_iload_n hx hb dL_law_1170 rfl (lv_at hl 0 rfl) ?_
  refine lv_iconst (v := 2) hx hb dL_law_1171 (by decide) ?_
  refine lv_iadd hx hb dL_law_1172 ?_
  refine lv_topi (fun x_8 ex_8 => ?_)
  obtain rfl : x_8 = 2 := ex_8.trans (by decide +kernel)
  refine va_sld hx hb hX hbl hbA hS (by unfold vp_in; decide +kernel) dL_law_1173 ?_
  refine lv_topi (fun x_9 ex_9 => ?_)
  obtain rfl : v2 = x_9 := (ex_9.trans hv2).symm
  refine vp_callSi (va_Run.run (va_runV (As := [.int v1, .int v2]) (rest := [.int r_5]) ⟨hx, hb, hml, hown, hts⟩ (c_X12_check l dC dI b c1 c2 c3 c4 fk hF v1 v2) (cwV 2 hts gv_RL_121 rfl rfl rfl (by decide +kernel) ⟨Nat.le_of_ble_eq_true rfl, Nat.le_of_ble_eq_true rfl⟩) ⟨fun a U g mk q => by obtain ⟨q0, qP, qK⟩ := q; exact ⟨q0, qP, va_K.moved (u := U) (U := U.calling g mk a) (Vm.Alike.refl U.vm) qK⟩, va_recv hKM hPM (ci := 11) (q0 := 0) rfl rfl, fun U hU hW => ⟨rfl, by rw [hU]; exact hPM, va_K.moved hW.alike hKM⟩⟩ rfl rfl hl.1 rfl (lv_room (Nat.le_of_ble_eq_true rfl)) dL_law_1174 ⟨Nat.le_of_ble_eq_true rfl, Nat.le_of_ble_eq_true rfl⟩)) (fun r_10 e_10 => ?_)
  obtain rfl : r_5 = r_10 := e_5.trans e_10.symm
  refine lv_icmp_eq (tgt := 1419) hx hb dL_law_1177 (by decide) (fun c_11 => ?_) (fun c_11 => absurd rfl c_11)
  refine W.widen (k := 1305) (n := 700005) (by omega) (by omega) ?_
  exact law_next C0 hS hl
set_option maxHeartbeats 4000000 in
set_option maxRecDepth 100000 in
theorem law_case_26 {p : Program} {l : Launch} {e : Env} {s : State} {m : MethodId} {below : List Frame} {meth : Method} {c : Code} {dC : Nat → ClassId} {dI : Nat → Nat → Nat} {sb : Nat} {xs : Nat → Int32} {a : Nat → Nat} {cG cT : ClassId} {ft : Nat → Option Nat} {TL : va_W} {b : Nat → Nat} {c1 c2 c3 c4 : ClassId} {fk : Nat → Int32} {H : Heap} {locs : List Loc} (C : lw_St p s m meth c dC dI sb xs a cG cT ft TL b c1 c2 c3 c4 fk H locs) {ls : Array Slot} (hl : lv_has ls 4 [(3, .int 0), (2, .ref (b 0)), (1, .ref (a 0)), (0, .ref sb)]) : W p l e room_1 s m #[Value.ref sb] below meth c H locs 1300 700000 (lw_Z below #[Value.ref sb] s) (F0 m 1182 ls []) := by
  obtain ⟨C0, hT, hF, hKX, hKM, hPX, hPM, hDX, hDM, hap, hFX, hFM, hS, hCA0, hCA3, hCA5, hCA10⟩ := C
  obtain ⟨hx, hb, hr, hml, hown, hts, hX, hbl, hlocks, hgv⟩ := id C0
  have hbA : ¬ (fun q : Nat => s.heap.size ≤ q) sb := Nat.not_le.mpr hbl
  obtain ⟨v1, hv1⟩ : ∃ v, xs (1 : Int32).toNatClampNeg = v := ⟨_, rfl⟩
  obtain ⟨v2, hv2⟩ : ∃ v, xs (2 : Int32).toNatClampNeg = v := ⟨_, rfl⟩
  obtain ⟨v3, hv3⟩ : ∃ v, xs (3 : Int32).toNatClampNeg = v := ⟨_, rfl⟩
  obtain ⟨v4, hv4⟩ : ∃ v, xs (4 : Int32).toNatClampNeg = v := ⟨_, rfl⟩
  refine lv_aload_n hx hb dL_law_1182 rfl (lv_at hl 2 rfl) ?_
  refine lv_aload_n hx hb dL_law_1183 rfl (lv_at hl 3 rfl) ?_
  refine lv_iload_n hx hb dL_law_1184 rfl (lv_at hl 0 rfl) ?_
  refine lv_iconst (v := 1) hx hb dL_law_1185 (by decide) ?_
  refine lv_iadd hx hb dL_law_1186 ?_
  refine lv_topi (fun x_1 ex_1 => ?_)
  obtain rfl : x_1 = 1 := ex_1.trans (by decide +kernel)
  refine va_sld hx hb hX hbl hbA hS (by unfold vp_in; decide +kernel) dL_law_1187 ?_
  refine lv_topi (fun x_2 ex_2 => ?_)
  obtain rfl : v1 = x_2 := (ex_2.trans hv1).symm
  refine lv_aload_n hx hb dL_law_1188 rfl (lv_at hl 3 rfl) ?_
  refine lv_iload_n hx hb dL_law_1189 rfl (lv_at hl 0 rfl) ?_
  refine lv_iconst (v := 2) hx hb dL_law_1190 (by decide) ?_
  refine lv_iadd hx hb dL_law_1191 ?_
  refine lv_topi (fun x_3 ex_3 => ?_)
  obtain rfl : x_3 = 2 := ex_3.trans (by decide +kernel)
  refine va_sld hx hb hX hbl hbA hS (by unfold vp_in; decide +kernel) dL_law_1192 ?_
  refine lv_topi (fun x_4 ex_4 => ?_)
  obtain rfl : v2 = x_4 := (ex_4.trans hv2).symm
  refine lv_aload_n hx hb dL_law_1193 rfl (lv_at hl 3 rfl) ?_
  refine lv_iload_n hx hb dL_law_1194 rfl (lv_at hl 0 rfl) ?_
  refine lv_iconst (v := 3) hx hb dL_law_1195 (by decide) ?_
  refine lv_iadd hx hb dL_law_1196 ?_
  refine lv_topi (fun x_5 ex_5 => ?_)
  obtain rfl : x_5 = 3 := ex_5.trans (by decide +kernel)
  refine va_sld hx hb hX hbl hbA hS (by unfold vp_in; decide +kernel) dL_law_1197 ?_
  refine lv_topi (fun x_6 ex_6 => ?_)
  obtain rfl : v3 = x_6 := (ex_6.trans hv3).symm
  refine vp_callSi (va_Run.run (va_runV (As := [.int v1, .int v2, .int v3]) (rest := []) ⟨hx, hb, hml, hown, hts⟩ (c_X11_claim l dC dI a cG cT ft TL hT v1 v2 v3) (cwV 3 hts gv_RL_122 rfl rfl rfl (by decide +kernel) ⟨Nat.le_of_ble_eq_true rfl, Nat.le_of_ble_eq_true rfl⟩) ⟨fun a U g mk q => by obtain ⟨q0, qP, qK⟩ := q; exact ⟨q0, qP, va_K.moved (u := U) (U := U.calling g mk a) (Vm.Alike.refl U.vm) qK⟩, va_recv hKX hPX (ci := 10) (q0 := 0) rfl rfl, fun U hU hW => ⟨rfl, by rw [hU]; exact hPX, va_K.moved hW.alike hKX⟩⟩ rfl rfl hl.1 rfl (lv_room (Nat.le_of_ble_eq_true rfl)) dL_law_1198 ⟨Nat.le_of_ble_eq_true rfl, Nat.le_of_ble_eq_true rfl⟩)) (fun r_7 e_7 => ?_)
  refine lv_aload_n hx hb dL_law_1201 rfl (lv_at hl 1 rfl) ?_
  refine lv_aload_n hx hb dL_law_1202 rfl (lv_at hl 3 rfl) ?_
  refine lv_iload_n hx hb dL_law_1203 rfl (lv_at hl 0 rfl) ?_
  refine lv_iconst (v := 1) hx hb dL_law_1204 (by decide) ?_
  refine lv_iadd hx hb dL_law_1205 ?_
  refine lv_topi (fun x_8 ex_8 => ?_)
  obtain rfl : x_8 = 1 := ex_8.trans (by decide +kernel)
  refine va_sld hx hb hX hbl hbA hS (by unfold vp_in; decide +kernel) dL_law_1206 ?_
  refine lv_topi (fun x_9 ex_9 => ?_)
  obtain rfl : v1 = x_9 := (ex_9.trans hv1).symm
  refine lv_aload_n hx hb dL_law_1207 rfl (lv_at hl 3 rfl) ?_
  refine lv_iload_n hx hb dL_law_1208 rfl (lv_at hl 0 rfl) ?_
  refine lv_iconst (v := 2) hx hb dL_law_1209 (by decide) ?_
  refine lv_iadd hx hb dL_law_1210 ?_
  refine lv_topi (fun x_10 ex_10 => ?_)
  obtain rfl : x_10 = 2 := ex_10.trans (by decide +kernel)
  refine va_sld hx hb hX hbl hbA hS (by unfold vp_in; decide +kernel) dL_law_1211 ?_
  refine lv_topi (fun x_11 ex_11 => ?_)
  obtain rfl : v2 = x_11 := (ex_11.trans hv2).symm
  refine lv_aload_n hx hb dL_law_1212 rfl (lv_at hl 3 rfl) ?_
  refine lv_iload_n hx hb dL_law_1213 rfl (lv_at hl 0 rfl) ?_
  refine lv_iconst (v := 3) hx hb dL_law_1214 (by decide) ?_
  refine lv_iadd hx hb dL_law_1215 ?_
  refine lv_topi (fun x_12 ex_12 => ?_)
  obtain rfl : x_12 = 3 := ex_12.trans (by decide +kernel)
  refine va_sld hx hb hX hbl hbA hS (by unfold vp_in; decide +kernel) dL_law_1216 ?_
  refine lv_topi (fun x_13 ex_13 => ?_)
  obtain rfl : v3 = x_13 := (ex_13.trans hv3).symm
  refine vp_callSi (va_Run.run (va_runV (As := [.int v1, .int v2, .int v3]) (rest := [.int r_7]) ⟨hx, hb, hml, hown, hts⟩ (c_X12_claim l dC dI b c1 c2 c3 c4 fk hF v1 v2 v3) (cwV 3 hts gv_RL_125 rfl rfl rfl (by decide +kernel) ⟨Nat.le_of_ble_eq_true rfl, Nat.le_of_ble_eq_true rfl⟩) ⟨fun a U g mk q => by obtain ⟨q0, qP, qK⟩ := q; exact ⟨q0, qP, va_K.moved (u := U) (U := U.calling g mk a) (Vm.Alike.refl U.vm) qK⟩, va_recv hKM hPM (ci := 11) (q0 := 0) rfl rfl, fun U hU hW => ⟨rfl, by rw [hU]; exact hPM, va_K.moved hW.alike hKM⟩⟩ rfl rfl hl.1 rfl (lv_room (Nat.le_of_ble_eq_true rfl)) dL_law_1217 ⟨Nat.le_of_ble_eq_true rfl, Nat.le_of_ble_eq_true rfl⟩)) (fun r_14 e_14 => ?_)
  obtain rfl : r_7 = r_14 := e_7.trans e_14.symm
  refine lv_icmp_eq (tgt := 1419) hx hb dL_law_1220 (by decide) (fun c_15 => ?_) (fun c_15 => absurd rfl c_15)
  refine W.widen (k := 1305) (n := 700005) (by omega) (by omega) ?_
  exact law_next C0 hS hl
