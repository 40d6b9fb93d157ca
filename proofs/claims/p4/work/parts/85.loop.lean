section LC
variable {p : Program} {l : Launch} {e : Env} {s : State} {m : MethodId} {below : List Frame} {meth : Method} {c : Code} {H : Heap} {locs : List Loc} {Q : State → Prop}
variable {ls : Array Slot} {D : va_G} {K Km : zK} {V : zV} {f : Nat → Int32} {A : Nat → Nat → Int32} {a b sb L N : Nat} {i : Int32} {xs : Nat → Int32}
set_option maxHeartbeats 4000000 in
set_option maxRecDepth 100000 in
/-- the law's loop -/
theorem lw_loop (G : lwG p s m meth c sb L xs D) : ∀ (n N : Nat) (i : Int32) (K : zK) (V : zV) (f : Nat → Int32) (A : Nat → Nat → Int32) (H : Heap) (locs : List Loc) (ls : Array Slot), 513 ≤ N + n → N ≤ 512 → i.toInt = 5 * (N : Int) → lwT D s K V a Km f A b (N : Int) H locs → lv_has ls 4 [(3, .int i), (2, .ref b), (1, .ref a), (0, .ref sb)] → W p l e room_1 s m #[Value.ref sb] below meth c H locs (2000 + N) (700000 + 3 * N) (lw_Z below #[Value.ref sb] s) (F0 m 18 ls []) := by
  intro n
  induction n with
  | zero => intro N i K V f A H locs ls h1 h2; omega
  | succ n ih =>
    intro N i K V f A H locs ls hn hN hi T hl
    obtain ⟨hx, hb, hr, hml, hown, hts, hX, hbl, hlocks, hgv⟩ := id G.1
    have hL2 := G.2.1
    have hS := T.2.2.2.2
    have hbA : ¬ lwN s sb := Nat.not_le.mpr hbl
    refine lv_iload_n hx hb dL_law_18 rfl (lv_at hl 0 rfl) ?_
    refine lv_aload_n hx hb dL_law_19 rfl (lv_at hl 3 rfl) ?_
    refine va_slen hx hb hX hbl hbA hS dL_law_20 ?_
    refine lv_topi (fun y ey => ?_)
    have hy : y.toInt = (L : Int) := by rw [ey]; exact nI_toInt (n := L) (by omega)
    refine lv_iconst (v := 5) hx hb dL_law_21 (by decide) ?_
    refine lv_isub hx hb dL_law_22 ?_
    refine lv_topi (fun z ez => ?_)
    have hz := z_sub ez hy ti_5
    have hz2 : z.toInt = (L : Int) - 5 := by omega
    refine lv_icmp_gt (tgt := 1425) hx hb dL_law_23 (by decide) (fun c1 => ?_) (fun c1 => ?_)
    · refine lv_iconst (v := 1) hx hb dL_law_1425 (by decide) ?_
      refine va_forget (fun q hq => hS.2.2 q hq) ?_
      refine W.widen (k := 600000) (n := 7302250) (by omega) (by omega) ?_
      exact lw_ret hx hb hr hlocks dL_law_1426
    · rw [fa_lt] at c1
      have hL : 5 * N + 5 ≤ L := by omega
      have nx : ∀ (K : zK) (V : zV) (f : Nat → Int32) (A : Nat → Nat → Int32) (H : Heap) (locs : List Loc) (ls : Array Slot), lwT D s K V a Km f A b ((N : Int) + 1) H locs → lv_has ls 4 [(3, .int i), (2, .ref b), (1, .ref a), (0, .ref sb)] → W p l e room_1 s m #[Value.ref sb] below meth c H locs (2000 + (N + 1)) (700000 + 3 * (N + 1)) (lw_Z below #[Value.ref sb] s) (F0 m 1419 ls []) := by
        intro K V f A H locs ls T hl
        obtain ⟨v, ev⟩ : ∃ v : Int32, v = i + 5 := ⟨_, rfl⟩
        have hv := z_add ev hi ti_5
        refine lv_iinc (v := v) (lv' := [(3, .int v), (2, .ref b), (1, .ref a), (0, .ref sb)]) hx hb dL_law_1419 hl (k := 0) rfl (by rw [ev]; rfl) (by decide) rfl (fun ls hl => ?_)
        refine lv_goto (tgt := 18) hx hb dL_law_1422 (by decide) ?_
        exact ih (N + 1) v K V f A H locs ls (by omega) (by omega) (by omega) T hl
      refine lv_aload_n hx hb dL_law_26 rfl (lv_at hl 3 rfl) ?_
      refine lv_iload_n hx hb dL_law_27 rfl (lv_at hl 0 rfl) ?_
      refine va_sld hx hb hX hbl hbA hS (vp_in_iff.mpr (by omega)) dL_law_28 ?_
      refine lv_bipush (v := 63) hx hb dL_law_29 (by decide) ?_
      refine lv_iand hx hb dL_law_31 ?_
      refine lv_topi (fun x_2 ex_2 => ?_)
      by_cases hs_0 : x_2 = 0
      · subst hs_0
        refine lv_tableIn (off := 156) (tgt := 188) hx hb dL_law_32 (by decide +kernel) (by decide +kernel) (by decide +kernel) (by decide) ?_
        exact lc_0 G hi hL T hl nx
      by_cases hs_1 : x_2 = 1
      · subst hs_1
        refine lv_tableIn (off := 209) (tgt := 241) hx hb dL_law_32 (by decide +kernel) (by decide +kernel) (by decide +kernel) (by decide) ?_
        exact lc_1 G hi hL T hl nx
      by_cases hs_2 : x_2 = 2
      · subst hs_2
        refine lv_tableIn (off := 232) (tgt := 264) hx hb dL_law_32 (by decide +kernel) (by decide +kernel) (by decide +kernel) (by decide) ?_
        exact lc_2 G hi hL T hl nx
      by_cases hs_3 : x_2 = 3
      · subst hs_3
        refine lv_tableIn (off := 275) (tgt := 307) hx hb dL_law_32 (by decide +kernel) (by decide +kernel) (by decide +kernel) (by decide) ?_
        exact lc_3 G hi hL T hl nx
      by_cases hs_4 : x_2 = 4
      · subst hs_4
        refine lv_tableIn (off := 334) (tgt := 366) hx hb dL_law_32 (by decide +kernel) (by decide +kernel) (by decide +kernel) (by decide) ?_
        exact lc_4 G hi hL T hl nx
      by_cases hs_5 : x_2 = 5
      · subst hs_5
        refine lv_tableIn (off := 377) (tgt := 409) hx hb dL_law_32 (by decide +kernel) (by decide +kernel) (by decide +kernel) (by decide) ?_
        exact lc_5 G hi hL T hl nx
      by_cases hs_6 : x_2 = 6
      · subst hs_6
        refine lv_tableIn (off := 410) (tgt := 442) hx hb dL_law_32 (by decide +kernel) (by decide +kernel) (by decide +kernel) (by decide) ?_
        exact lc_6 G hi hL T hl nx
      by_cases hs_7 : x_2 = 7
      · subst hs_7
        refine lv_tableIn (off := 443) (tgt := 475) hx hb dL_law_32 (by decide +kernel) (by decide +kernel) (by decide +kernel) (by decide) ?_
        exact lc_7 G hi hL T hl nx
      by_cases hs_8 : x_2 = 8
      · subst hs_8
        refine lv_tableIn (off := 486) (tgt := 518) hx hb dL_law_32 (by decide +kernel) (by decide +kernel) (by decide +kernel) (by decide) ?_
        exact lc_8 G hi hL T hl nx
      by_cases hs_9 : x_2 = 9
      · subst hs_9
        refine lv_tableIn (off := 529) (tgt := 561) hx hb dL_law_32 (by decide +kernel) (by decide +kernel) (by decide +kernel) (by decide) ?_
        exact lc_9 G hi hL T hl nx
      by_cases hs_10 : x_2 = 10
      · subst hs_10
        refine lv_tableIn (off := 582) (tgt := 614) hx hb dL_law_32 (by decide +kernel) (by decide +kernel) (by decide +kernel) (by decide) ?_
        exact lc_10 G hi hL T hl nx
      by_cases hs_11 : x_2 = 11
      · subst hs_11
        refine lv_tableIn (off := 615) (tgt := 647) hx hb dL_law_32 (by decide +kernel) (by decide +kernel) (by decide +kernel) (by decide) ?_
        exact lc_11 G hi hL T hl nx
      by_cases hs_12 : x_2 = 12
      · subst hs_12
        refine lv_tableIn (off := 658) (tgt := 690) hx hb dL_law_32 (by decide +kernel) (by decide +kernel) (by decide +kernel) (by decide) ?_
        exact lc_12 G hi hL T hl nx
      by_cases hs_13 : x_2 = 13
      · subst hs_13
        refine lv_tableIn (off := 701) (tgt := 733) hx hb dL_law_32 (by decide +kernel) (by decide +kernel) (by decide +kernel) (by decide) ?_
        exact lc_13 G hi hL T hl nx
      by_cases hs_14 : x_2 = 14
      · subst hs_14
        refine lv_tableIn (off := 744) (tgt := 776) hx hb dL_law_32 (by decide +kernel) (by decide +kernel) (by decide +kernel) (by decide) ?_
        exact lc_14 G hi hL T hl nx
      by_cases hs_15 : x_2 = 15
      · subst hs_15
        refine lv_tableIn (off := 767) (tgt := 799) hx hb dL_law_32 (by decide +kernel) (by decide +kernel) (by decide +kernel) (by decide) ?_
        exact lc_15 G hi hL T hl nx
      by_cases hs_16 : x_2 = 16
      · subst hs_16
        refine lv_tableIn (off := 800) (tgt := 832) hx hb dL_law_32 (by decide +kernel) (by decide +kernel) (by decide +kernel) (by decide) ?_
        exact lc_16 G hi hL T hl nx
      by_cases hs_17 : x_2 = 17
      · subst hs_17
        refine lv_tableIn (off := 843) (tgt := 875) hx hb dL_law_32 (by decide +kernel) (by decide +kernel) (by decide +kernel) (by decide) ?_
        exact lc_17 G hi hL T hl nx
      by_cases hs_18 : x_2 = 18
      · subst hs_18
        refine lv_tableIn (off := 876) (tgt := 908) hx hb dL_law_32 (by decide +kernel) (by decide +kernel) (by decide +kernel) (by decide) ?_
        exact lc_18 G hi hL T hl nx
      by_cases hs_19 : x_2 = 19
      · subst hs_19
        refine lv_tableIn (off := 899) (tgt := 931) hx hb dL_law_32 (by decide +kernel) (by decide +kernel) (by decide +kernel) (by decide) ?_
        exact lc_19 G hi hL T hl nx
      by_cases hs_20 : x_2 = 20
      · subst hs_20
        refine lv_tableIn (off := 942) (tgt := 974) hx hb dL_law_32 (by decide +kernel) (by decide +kernel) (by decide +kernel) (by decide) ?_
        exact lc_20 G hi hL T hl nx
      by_cases hs_21 : x_2 = 21
      · subst hs_21
        refine lv_tableIn (off := 985) (tgt := 1017) hx hb dL_law_32 (by decide +kernel) (by decide +kernel) (by decide +kernel) (by decide) ?_
        exact lc_21 G hi hL T hl nx
      by_cases hs_22 : x_2 = 22
      · subst hs_22
        refine lv_tableIn (off := 1018) (tgt := 1050) hx hb dL_law_32 (by decide +kernel) (by decide +kernel) (by decide +kernel) (by decide) ?_
        exact lc_22 G hi hL T hl nx
      by_cases hs_23 : x_2 = 23
      · subst hs_23
        refine lv_tableIn (off := 1041) (tgt := 1073) hx hb dL_law_32 (by decide +kernel) (by decide +kernel) (by decide +kernel) (by decide) ?_
        exact lc_23 G hi hL T hl nx
      by_cases hs_24 : x_2 = 24
      · subst hs_24
        refine lv_tableIn (off := 1074) (tgt := 1106) hx hb dL_law_32 (by decide +kernel) (by decide +kernel) (by decide +kernel) (by decide) ?_
        exact lc_24 G hi hL T hl nx
      by_cases hs_25 : x_2 = 25
      · subst hs_25
        refine lv_tableIn (off := 1117) (tgt := 1149) hx hb dL_law_32 (by decide +kernel) (by decide +kernel) (by decide +kernel) (by decide) ?_
        exact lc_25 G hi hL T hl nx
      by_cases hs_26 : x_2 = 26
      · subst hs_26
        refine lv_tableIn (off := 1150) (tgt := 1182) hx hb dL_law_32 (by decide +kernel) (by decide +kernel) (by decide +kernel) (by decide) ?_
        exact lc_26 G hi hL T hl nx
      by_cases hs_27 : x_2 = 27
      · subst hs_27
        refine lv_tableIn (off := 1193) (tgt := 1225) hx hb dL_law_32 (by decide +kernel) (by decide +kernel) (by decide +kernel) (by decide) ?_
        exact lc_27 G hi hL T hl nx
      by_cases hs_28 : x_2 = 28
      · subst hs_28
        refine lv_tableIn (off := 1216) (tgt := 1248) hx hb dL_law_32 (by decide +kernel) (by decide +kernel) (by decide +kernel) (by decide) ?_
        exact lc_28 G hi hL T hl nx
      by_cases hs_29 : x_2 = 29
      · subst hs_29
        refine lv_tableIn (off := 1239) (tgt := 1271) hx hb dL_law_32 (by decide +kernel) (by decide +kernel) (by decide +kernel) (by decide) ?_
        exact lc_29 G hi hL T hl nx
      by_cases hs_30 : x_2 = 30
      · subst hs_30
        refine lv_tableIn (off := 1262) (tgt := 1294) hx hb dL_law_32 (by decide +kernel) (by decide +kernel) (by decide +kernel) (by decide) ?_
        exact lc_30 G hi hL T hl nx
      by_cases hs_31 : x_2 = 31
      · subst hs_31
        refine lv_tableIn (off := 1295) (tgt := 1327) hx hb dL_law_32 (by decide +kernel) (by decide +kernel) (by decide +kernel) (by decide) ?_
        exact lc_31 G hi hL T hl nx
      by_cases hs_32 : x_2 = 32
      · subst hs_32
        refine lv_tableIn (off := 1318) (tgt := 1350) hx hb dL_law_32 (by decide +kernel) (by decide +kernel) (by decide +kernel) (by decide) ?_
        exact lc_32 G hi hL T hl nx
      by_cases hs_33 : x_2 = 33
      · subst hs_33
        refine lv_tableIn (off := 1331) (tgt := 1363) hx hb dL_law_32 (by decide +kernel) (by decide +kernel) (by decide +kernel) (by decide) ?_
        exact lc_33 G hi hL T hl nx
      by_cases hs_34 : x_2 = 34
      · subst hs_34
        refine lv_tableIn (off := 1354) (tgt := 1386) hx hb dL_law_32 (by decide +kernel) (by decide +kernel) (by decide +kernel) (by decide) ?_
        exact lc_34 G hi hL T hl nx
      have ht_0 : ¬ x_2.toInt = 0 := fun h => hs_0 ((fa_eq _ _).mpr (h.trans (by decide +kernel)))
      have ht_1 : ¬ x_2.toInt = 1 := fun h => hs_1 ((fa_eq _ _).mpr (h.trans (by decide +kernel)))
      have ht_2 : ¬ x_2.toInt = 2 := fun h => hs_2 ((fa_eq _ _).mpr (h.trans (by decide +kernel)))
      have ht_3 : ¬ x_2.toInt = 3 := fun h => hs_3 ((fa_eq _ _).mpr (h.trans (by decide +kernel)))
      have ht_4 : ¬ x_2.toInt = 4 := fun h => hs_4 ((fa_eq _ _).mpr (h.trans (by decide +kernel)))
      have ht_5 : ¬ x_2.toInt = 5 := fun h => hs_5 ((fa_eq _ _).mpr (h.trans (by decide +kernel)))
      have ht_6 : ¬ x_2.toInt = 6 := fun h => hs_6 ((fa_eq _ _).mpr (h.trans (by decide +kernel)))
      have ht_7 : ¬ x_2.toInt = 7 := fun h => hs_7 ((fa_eq _ _).mpr (h.trans (by decide +kernel)))
      have ht_8 : ¬ x_2.toInt = 8 := fun h => hs_8 ((fa_eq _ _).mpr (h.trans (by decide +kernel)))
      have ht_9 : ¬ x_2.toInt = 9 := fun h => hs_9 ((fa_eq _ _).mpr (h.trans (by decide +kernel)))
      have ht_10 : ¬ x_2.toInt = 10 := fun h => hs_10 ((fa_eq _ _).mpr (h.trans (by decide +kernel)))
      have ht_11 : ¬ x_2.toInt = 11 := fun h => hs_11 ((fa_eq _ _).mpr (h.trans (by decide +kernel)))
      have ht_12 : ¬ x_2.toInt = 12 := fun h => hs_12 ((fa_eq _ _).mpr (h.trans (by decide +kernel)))
      have ht_13 : ¬ x_2.toInt = 13 := fun h => hs_13 ((fa_eq _ _).mpr (h.trans (by decide +kernel)))
      have ht_14 : ¬ x_2.toInt = 14 := fun h => hs_14 ((fa_eq _ _).mpr (h.trans (by decide +kernel)))
      have ht_15 : ¬ x_2.toInt = 15 := fun h => hs_15 ((fa_eq _ _).mpr (h.trans (by decide +kernel)))
      have ht_16 : ¬ x_2.toInt = 16 := fun h => hs_16 ((fa_eq _ _).mpr (h.trans (by decide +kernel)))
      have ht_17 : ¬ x_2.toInt = 17 := fun h => hs_17 ((fa_eq _ _).mpr (h.trans (by decide +kernel)))
      have ht_18 : ¬ x_2.toInt = 18 := fun h => hs_18 ((fa_eq _ _).mpr (h.trans (by decide +kernel)))
      have ht_19 : ¬ x_2.toInt = 19 := fun h => hs_19 ((fa_eq _ _).mpr (h.trans (by decide +kernel)))
      have ht_20 : ¬ x_2.toInt = 20 := fun h => hs_20 ((fa_eq _ _).mpr (h.trans (by decide +kernel)))
      have ht_21 : ¬ x_2.toInt = 21 := fun h => hs_21 ((fa_eq _ _).mpr (h.trans (by decide +kernel)))
      have ht_22 : ¬ x_2.toInt = 22 := fun h => hs_22 ((fa_eq _ _).mpr (h.trans (by decide +kernel)))
      have ht_23 : ¬ x_2.toInt = 23 := fun h => hs_23 ((fa_eq _ _).mpr (h.trans (by decide +kernel)))
      have ht_24 : ¬ x_2.toInt = 24 := fun h => hs_24 ((fa_eq _ _).mpr (h.trans (by decide +kernel)))
      have ht_25 : ¬ x_2.toInt = 25 := fun h => hs_25 ((fa_eq _ _).mpr (h.trans (by decide +kernel)))
      have ht_26 : ¬ x_2.toInt = 26 := fun h => hs_26 ((fa_eq _ _).mpr (h.trans (by decide +kernel)))
      have ht_27 : ¬ x_2.toInt = 27 := fun h => hs_27 ((fa_eq _ _).mpr (h.trans (by decide +kernel)))
      have ht_28 : ¬ x_2.toInt = 28 := fun h => hs_28 ((fa_eq _ _).mpr (h.trans (by decide +kernel)))
      have ht_29 : ¬ x_2.toInt = 29 := fun h => hs_29 ((fa_eq _ _).mpr (h.trans (by decide +kernel)))
      have ht_30 : ¬ x_2.toInt = 30 := fun h => hs_30 ((fa_eq _ _).mpr (h.trans (by decide +kernel)))
      have ht_31 : ¬ x_2.toInt = 31 := fun h => hs_31 ((fa_eq _ _).mpr (h.trans (by decide +kernel)))
      have ht_32 : ¬ x_2.toInt = 32 := fun h => hs_32 ((fa_eq _ _).mpr (h.trans (by decide +kernel)))
      have ht_33 : ¬ x_2.toInt = 33 := fun h => hs_33 ((fa_eq _ _).mpr (h.trans (by decide +kernel)))
      have ht_34 : ¬ x_2.toInt = 34 := fun h => hs_34 ((fa_eq _ _).mpr (h.trans (by decide +kernel)))
      refine lv_tableOut (tgt := 1419) hx hb dL_law_32 (by omega) (by decide) ?_
      refine W.widen (k := 2000 + (N + 1)) (n := 700000 + 3 * (N + 1)) (by omega) (by omega) ?_
      exact nx _ _ _ _ _ _ _ T.up hl
end LC
