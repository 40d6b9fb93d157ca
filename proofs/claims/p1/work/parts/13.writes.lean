set_option maxRecDepth 100000 in
theorem gl_X11_newGame : GoodIn lw_tbl wsX11_newGame := goodIn_r _ [418, 419, 420, 91, 437, 438, 92, 445, 446, 93, 453, 454, 90, 421, 422, 423, 424, 425, 426, 427, 428, 89, 429, 430, 103, 104, 431, 439, 440, 441, 442, 447, 448, 449, 450, 455, 434, 443, 451, 456, 470, 466, 468] (by decide +kernel) (by decide +kernel)
set_option maxRecDepth 100000 in
theorem gv_RX11_65 : GoodIn lw_tbl (va_wsS RX11 65 yX11_newGame wsX11_newGame) := (gi_t 336 (by decide +kernel) rfl (gi_t 337 (by decide +kernel) rfl (gi_t 1 (by decide +kernel) rfl gl_X11_newGame)))
def vsX11_game : List Cond := .code yX11_game cX11_game 9 (some .int) :: ([.fieldLink RX11 11 "CardTables" "games" "[LCardTables$Game;"] ++ (wsX110 ++ (va_wsS RX11 57 yX11_isGame vsX11_isGame ++ (va_wsS RX11 65 yX11_newGame wsX11_newGame ++ (wsV RX11 61 RX11 yX11_gameAt vsX11_gameAt ++ [])))))
set_option maxRecDepth 100000 in
theorem gl_X11_game : GoodIn lw_tbl vsX11_game := gi_t 328 rfl rfl (goodIn_app (gi_t 297 (by decide +kernel) rfl gi_nil) (goodIn_app gc_X11 (goodIn_app gv_RX11_57 (goodIn_app gv_RX11_65 (goodIn_app gv_RX11_61 gi_nil)))))
theorem g_X11_game_X11_isGame : GoodIn vsX11_game (va_wsS RX11 57 yX11_isGame vsX11_isGame) := fun w h => ⟨List.mem_cons_of_mem _ (List.mem_append_right _ (List.mem_append_right _ (List.mem_append_left _ h))), (gv_RX11_57 w h).2⟩
theorem g_X11_game_X11_newGame : GoodIn vsX11_game (va_wsS RX11 65 yX11_newGame wsX11_newGame) := fun w h => ⟨List.mem_cons_of_mem _ (List.mem_append_right _ (List.mem_append_right _ (List.mem_append_right _ (List.mem_append_left _ h)))), (gv_RX11_65 w h).2⟩
theorem g_X11_game_X11_gameAt : GoodIn vsX11_game (wsV RX11 61 RX11 yX11_gameAt vsX11_gameAt) := fun w h => ⟨List.mem_cons_of_mem _ (List.mem_append_right _ (List.mem_append_right _ (List.mem_append_right _ (List.mem_append_right _ (List.mem_append_left _ h))))), (gv_RX11_61 w h).2⟩
set_option maxHeartbeats 4000000 in
set_option maxRecDepth 100000 in
theorem c_X11_game (l : Launch) (dC : Nat → ClassId) (dI : Nat → Nat → Nat) (a : Nat → Nat) (cG cT : ClassId) (ft : Nat → Option Nat) (TL : va_W) (hT : fr_T ft TL) (sz : Nat) (g : Int32) (k : Int32) (p3 : Int32) (p4 : Int32) : Met l yX11_game vsX11_game ({ frames := 6, cells := 1, slots := 1, locals := 115 }) (va_Pc [.ref (a 0), .int g, .int k, .int p3, .int p4] (fun U => U.heap.size = sz ∧ va_P (dC, dI) vwCl (wX a cG cT ft TL) U.heap ∧ va_K (dC, dI) vwCl (tX cG cT) U ∧ va_D (fun _ => True) (wX a cG cT ft TL) ∧ va_Nw (.castable RX0 RX4) U ∧ va_Nw (.castable RX3 RX4) U ∧ va_Nw (.castable RX5 RX4) U ∧ va_Nw (.castable RX10 RX4) U)) (va_Qi (fun r (_ : Unit) => r = f_game g k) (fun _ _ => True) (va_A (wX a cG cT ft TL) sz)) 1 1 (va_A (wX a cG cT ft TL) sz) := by
  refine Met.ofW (cc := cX11_game) (maxL := 9) (ret := (some .int)) (by decide) rfl ?_
  intro p e s m args below meth c s₁ B hml hv
  obtain ⟨rfl, hsz, hPx, hK, hD0, hCA0, hCA3, hCA5, hCA10⟩ := hv
  have hx := B.exec
  have hb := B.bytes
  have hr := B.returns
  have hts := atoms_spec (ws := vsX11_game) B.pre
  have hown : s.vm.findClass RX11 = some m.cls := findClass_of_methodNamed B.named
  have hlocks := B.notSynchronized
  subst hsz
  have hDx := hD0.self (sz := s.heap.size)
  generalize hAe : va_A (wX a cG cT ft TL) s.heap.size = A at hDx ⊢
  have hA : ∀ q : Nat, s.heap.size ≤ q → A q := fun q h => by rw [← hAe]; exact Or.inr h
  have hS : va_S A s.heap s.heap [] := va_S.rf
  have hP := hPx.sub (ws' := [(a 0, .inr (10, [.ref (a 1), .ref (a 2), .ref (a 4), .ref (a 5), .ref (a 6), .ref (a 7), .ref (a 3), .ref (a 8), .ref (a 9)])), (a 1, .inl (cG, 6, .inr (.inr (.inr (.inr (fun _ => none)))))), (a 2, .inl (cT, 4, .inr (.inr (.inr (.inr ft))))), (a 3, .inr (5, [.int 0, .ref (a 10), .ref (a 11), .int 0, .int 0, .int 0, .int 0]))]) [0, 1, 2, 3] rfl
  have hD := hDx.sub (ws' := [(a 0, .inr (10, [.ref (a 1), .ref (a 2), .ref (a 4), .ref (a 5), .ref (a 6), .ref (a 7), .ref (a 3), .ref (a 8), .ref (a 9)])), (a 1, .inl (cG, 6, .inr (.inr (.inr (.inr (fun _ => none)))))), (a 2, .inl (cT, 4, .inr (.inr (.inr (.inr ft))))), (a 3, .inr (5, [.int 0, .ref (a 10), .ref (a 11), .int 0, .int 0, .int 0, .int 0]))]) [0, 1, 2, 3] (by decide) rfl
  have hl := lv_entry ([.ref (a 0), .int g, .int k, .int p3, .int p4]) (n := 9) (Nat.le_of_ble_eq_true rfl)
  rw [lg_entry_eq]
  generalize (lg_sl ([.ref (a 0), .int g, .int k, .int p3, .int p4]) ++ List.replicate (9 - (lg_sl ([.ref (a 0), .int g, .int k, .int p3, .int p4])).length) Slot.unset).toArray = ls at hl ⊢
  have hl : lv_has ls 9 [(0, .ref (a 0)), (1, .int g), (2, .int k), (3, .int p3), (4, .int p4)] := hl
  refine lv_iload_n hx hb dX11_game_0 rfl (lv_at hl 2 rfl) ?_
  refine lv_iconst (v := 4) hx hb dX11_game_1 (by decide) ?_
  refine lv_icmp_ne (tgt := 9) hx hb dX11_game_2 (by decide) (fun c_1 => ?_) (fun c_1 => ?_)
  · skip
    refine lv_iconst (v := 0) hx hb dX11_game_9 (by decide) ?_
    refine lv_istore (lv' := [(5, .int 0), (0, .ref (a 0)), (1, .int g), (2, .int k), (3, .int p3), (4, .int p4)]) hx hb dX11_game_10 hl (by decide) rfl (fun ls hl => ?_)
    refine lv_iload_n hx hb dX11_game_12 rfl (lv_at hl 2 rfl) ?_
    refine vp_callSi (va_Run.run (va_runS (As := [.int g]) (rest := []) ⟨hx, hb, hml, hown, hts⟩ (c_X11_isGame l dC dI  g) (va_cwS 1 hts g_X11_game_X11_isGame rfl rfl rfl (by decide +kernel) ⟨Nat.le_of_ble_eq_true rfl, Nat.le_of_ble_eq_true rfl⟩) ⟨fun a U g mk q => q, fun U hU hW => ⟨rfl, trivial⟩⟩ rfl rfl hl.1 rfl (lv_room (Nat.le_of_ble_eq_true rfl)) dX11_game_13 ⟨Nat.zero_le _, Nat.zero_le _⟩)) (fun r_2 e_2 => ?_)
    rcases e_2 with ⟨rfl, hy_3⟩ | ⟨rfl, hn_3⟩
    · skip
      refine lv_if_eq (tgt := 41) hx hb dX11_game_16 (by decide) (fun c_4 => ?_) (fun c_4 => ?_)
      · exact absurd c_4 (by decide +kernel)
      · skip
        refine lv_iload hx hb dX11_game_19 (lv_at hl 0 rfl) ?_
        refine lv_if_eq (tgt := 44) hx hb dX11_game_21 (by decide) (fun c_5 => ?_) (fun c_5 => ?_)
        · skip
          refine lv_iload_n hx hb dX11_game_44 rfl (lv_at hl 3 rfl) ?_
          refine lv_if_lt (tgt := 53) hx hb dX11_game_45 (by decide) (fun c_6 => ?_) (fun c_6 => ?_)
          · skip
            refine lv_bipush (v := (-3)) hx hb dX11_game_53 (by decide) ?_
            refine W.widen (k := 1) (n := 1) (by omega) (by omega) ?_
            exact W.iret (v := (-3)) hx hb hr (fun t ht hW => ⟨⟨(-3), (), rfl, (by unfold f_game; (repeat' split) <;> first | rfl | (simp only [fa_lt, fa_le, fa_eq, ti_m1, ti_0, ti_1, ti_2, ti_3, ti_4, ti_5, ti_6, ti_60] at *; omega)), trivial⟩, hS.F ht⟩) hS.2.2 dX11_game_55
          · skip
            refine lv_iload_n hx hb dX11_game_48 rfl (lv_at hl 3 rfl) ?_
            refine lv_iconst (v := 4) hx hb dX11_game_49 (by decide) ?_
            refine lv_icmp_le (tgt := 56) hx hb dX11_game_50 (by decide) (fun c_7 => ?_) (fun c_7 => ?_)
            · skip
              refine lv_iload hx hb dX11_game_56 (lv_at hl 0 rfl) ?_
              refine lv_if_ne (tgt := 74) hx hb dX11_game_58 (by decide) (fun c_8 => ?_) (fun c_8 => ?_)
              · exact absurd c_8 (by decide +kernel)
              · skip
                refine lv_aload_n hx hb dX11_game_61 rfl (lv_at hl 1 rfl) ?_
                refine va_get (D := (dC, dI)) (ci := 10) (v := .ref (a 1)) (C := RX11) (T := TX11) (N := 9) hx hb hts (by decide +kernel) hown hK hP 0 rfl rfl 0 (by decide) (hts (.fieldLink RX11 11 "CardTables" "games" "[LCardTables$Game;") (List.mem_of_getElem? (l := vsX11_game) (i := 1) rfl)) (fun _ h9 => h9) rfl dX11_game_62 ?_
                refine lv_iload_n hx hb dX11_game_65 rfl (lv_at hl 2 rfl) ?_
                refine lv_iload_n hx hb dX11_game_66 rfl (lv_at hl 3 rfl) ?_
                have hKc := hK.sub (tys' := []) [] rfl
                have hFc := va_free (wc := []) hD hS hA [] rfl
                refine va_callr (va_runS (As := [.int k]) (rest := [.int g, .ref (a 1)]) ⟨hx, hb, hml, hown, hts⟩ (c_X11_newGame l dC dI s.heap.size k) (va_cwS 1 hts g_X11_game_X11_newGame rfl rfl rfl (by decide +kernel) ⟨Nat.le_of_ble_eq_true rfl, Nat.le_of_ble_eq_true rfl⟩) ⟨fun a U g mk q => by obtain ⟨q0, q1, qK⟩ := q; exact ⟨q0, q1, va_K.moved (u := U) (U := U.calling g mk a) (Vm.Alike.refl U.vm) qK⟩, fun U hU hW => ⟨rfl, by rw [hU], va_K.moved hW.alike hKc⟩⟩ rfl rfl hl.1 rfl (lv_room (Nat.le_of_ble_eq_true rfl)) dX11_game_67 ⟨Nat.le_of_ble_eq_true rfl, Nat.le_of_ble_eq_true rfl⟩) hS (fun q _ h => hFc q h) hFc (fun u ra t H locs ht hvm hw hB hz1 hk1 hS => ?_)
                obtain ⟨ci, fs, hci, hP1, hD1⟩ := hB
                rw [ht] at hP1
                obtain ⟨hP, hD⟩ := va_join (wr := [(a 0, .inr (10, [.ref (a 1), .ref (a 2), .ref (a 4), .ref (a 5), .ref (a 6), .ref (a 7), .ref (a 3), .ref (a 8), .ref (a 9)])), (a 1, .inl (cG, 6, .inr (.inr (.inr (.inr (fun _ => none)))))), (a 2, .inl (cT, 4, .inr (.inr (.inr (.inr ft))))), (a 3, .inr (5, [.int 0, .ref (a 10), .ref (a 11), .int 0, .int 0, .int 0, .int 0]))]) (w1 := [(ra, .inr (ci, fs))]) hP hD [] [0, 1, 2, 3] rfl rfl (by decide) (by decide) hk1 hFc hP1 hD1
                refine W.widen (k := 1) (n := 1) (by omega) (by omega) ?_
                have hin : vp_in g 6 := vp_in_iff.mpr (by simp only [ti_m1, ti_0, ti_1, ti_2, ti_3, ti_4, ti_5, ti_6, ti_60] at hy_3 ⊢; omega)
                rcases hci with rfl | rfl | rfl | rfl
                · refine va_astqO (E := RX4) hx hb hK hP hD hS 1 0 4 0 rfl rfl hCA0 rfl rfl hin dX11_game_70 (fun H locs hP hD hS => ?_)
                  refine lv_goto (tgt := 142) hx hb dX11_game_71 (by decide) ?_
                  refine lv_iconst (v := 1) hx hb dX11_game_142 (by decide) ?_
                  refine W.widen (k := 1) (n := 1) (by omega) (by omega) ?_
                  exact W.iret (v := 1) hx hb hr (fun t ht hW => ⟨⟨1, (), rfl, (by unfold f_game; (repeat' split) <;> first | rfl | (simp only [fa_lt, fa_le, fa_eq, ti_m1, ti_0, ti_1, ti_2, ti_3, ti_4, ti_5, ti_6, ti_60] at *; omega)), trivial⟩, hS.F ht⟩) hS.2.2 dX11_game_143
                · refine va_astqO (E := RX4) hx hb hK hP hD hS 1 0 4 3 rfl rfl hCA3 rfl rfl hin dX11_game_70 (fun H locs hP hD hS => ?_)
                  refine lv_goto (tgt := 142) hx hb dX11_game_71 (by decide) ?_
                  refine lv_iconst (v := 1) hx hb dX11_game_142 (by decide) ?_
                  refine W.widen (k := 1) (n := 1) (by omega) (by omega) ?_
                  exact W.iret (v := 1) hx hb hr (fun t ht hW => ⟨⟨1, (), rfl, (by unfold f_game; (repeat' split) <;> first | rfl | (simp only [fa_lt, fa_le, fa_eq, ti_m1, ti_0, ti_1, ti_2, ti_3, ti_4, ti_5, ti_6, ti_60] at *; omega)), trivial⟩, hS.F ht⟩) hS.2.2 dX11_game_143
                · refine va_astqO (E := RX4) hx hb hK hP hD hS 1 0 4 4 rfl rfl hCA5 rfl rfl hin dX11_game_70 (fun H locs hP hD hS => ?_)
                  refine lv_goto (tgt := 142) hx hb dX11_game_71 (by decide) ?_
                  refine lv_iconst (v := 1) hx hb dX11_game_142 (by decide) ?_
                  refine W.widen (k := 1) (n := 1) (by omega) (by omega) ?_
                  exact W.iret (v := 1) hx hb hr (fun t ht hW => ⟨⟨1, (), rfl, (by unfold f_game; (repeat' split) <;> first | rfl | (simp only [fa_lt, fa_le, fa_eq, ti_m1, ti_0, ti_1, ti_2, ti_3, ti_4, ti_5, ti_6, ti_60] at *; omega)), trivial⟩, hS.F ht⟩) hS.2.2 dX11_game_143
                · refine va_astqO (E := RX4) hx hb hK hP hD hS 1 0 4 9 rfl rfl hCA10 rfl rfl hin dX11_game_70 (fun H locs hP hD hS => ?_)
                  refine lv_goto (tgt := 142) hx hb dX11_game_71 (by decide) ?_
                  refine lv_iconst (v := 1) hx hb dX11_game_142 (by decide) ?_
                  refine W.widen (k := 1) (n := 1) (by omega) (by omega) ?_
                  exact W.iret (v := 1) hx hb hr (fun t ht hW => ⟨⟨1, (), rfl, (by unfold f_game; (repeat' split) <;> first | rfl | (simp only [fa_lt, fa_le, fa_eq, ti_m1, ti_0, ti_1, ti_2, ti_3, ti_4, ti_5, ti_6, ti_60] at *; omega)), trivial⟩, hS.F ht⟩) hS.2.2 dX11_game_143
            · skip
              refine lv_bipush (v := (-3)) hx hb dX11_game_53 (by decide) ?_
              refine W.widen (k := 1) (n := 1) (by omega) (by omega) ?_
              exact W.iret (v := (-3)) hx hb hr (fun t ht hW => ⟨⟨(-3), (), rfl, (by unfold f_game; (repeat' split) <;> first | rfl | (simp only [fa_lt, fa_le, fa_eq, ti_m1, ti_0, ti_1, ti_2, ti_3, ti_4, ti_5, ti_6, ti_60] at *; omega)), trivial⟩, hS.F ht⟩) hS.2.2 dX11_game_55
        · exact absurd c_5 (by decide +kernel)
    · skip
      refine lv_if_eq (tgt := 41) hx hb dX11_game_16 (by decide) (fun c_9 => ?_) (fun c_9 => ?_)
      · skip
        refine lv_bipush (v := (-2)) hx hb dX11_game_41 (by decide) ?_
        refine W.widen (k := 1) (n := 1) (by omega) (by omega) ?_
        exact W.iret (v := (-2)) hx hb hr (fun t ht hW => ⟨⟨(-2), (), rfl, (by unfold f_game; (repeat' split) <;> first | rfl | (simp only [fa_lt, fa_le, fa_eq, ti_m1, ti_0, ti_1, ti_2, ti_3, ti_4, ti_5, ti_6, ti_60] at *; omega)), trivial⟩, hS.F ht⟩) hS.2.2 dX11_game_43
      · exact absurd c_9 (by decide +kernel)
  · skip
    refine lv_iconst (v := 1) hx hb dX11_game_5 (by decide) ?_
    refine lv_goto (tgt := 10) hx hb dX11_game_6 (by decide) ?_
    refine lv_istore (lv' := [(5, .int 1), (0, .ref (a 0)), (1, .int g), (2, .int k), (3, .int p3), (4, .int p4)]) hx hb dX11_game_10 hl (by decide) rfl (fun ls hl => ?_)
    refine lv_iload_n hx hb dX11_game_12 rfl (lv_at hl 2 rfl) ?_
    refine vp_callSi (va_Run.run (va_runS (As := [.int g]) (rest := []) ⟨hx, hb, hml, hown, hts⟩ (c_X11_isGame l dC dI  g) (va_cwS 1 hts g_X11_game_X11_isGame rfl rfl rfl (by decide +kernel) ⟨Nat.le_of_ble_eq_true rfl, Nat.le_of_ble_eq_true rfl⟩) ⟨fun a U g mk q => q, fun U hU hW => ⟨rfl, trivial⟩⟩ rfl rfl hl.1 rfl (lv_room (Nat.le_of_ble_eq_true rfl)) dX11_game_13 ⟨Nat.zero_le _, Nat.zero_le _⟩)) (fun r_10 e_10 => ?_)
    rcases e_10 with ⟨rfl, hy_11⟩ | ⟨rfl, hn_11⟩
    · skip
      refine lv_if_eq (tgt := 41) hx hb dX11_game_16 (by decide) (fun c_12 => ?_) (fun c_12 => ?_)
      · exact absurd c_12 (by decide +kernel)
      · skip
        refine lv_iload hx hb dX11_game_19 (lv_at hl 0 rfl) ?_
        refine lv_if_eq (tgt := 44) hx hb dX11_game_21 (by decide) (fun c_13 => ?_) (fun c_13 => ?_)
        · exact absurd c_13 (by decide +kernel)
        · skip
          refine lv_aload_n hx hb dX11_game_24 rfl (lv_at hl 1 rfl) ?_
          refine lv_iload_n hx hb dX11_game_25 rfl (lv_at hl 4 rfl) ?_
          refine va_csq (va_Run.run (va_runV (As := [.int p3]) (rest := []) ⟨hx, hb, hml, hown, hts⟩ (c_X11_gameAt l dC dI a cG cT ft TL hT p3) (cwV 1 hts g_X11_game_X11_gameAt rfl rfl rfl (by decide +kernel) ⟨Nat.le_of_ble_eq_true rfl, Nat.le_of_ble_eq_true rfl⟩) ⟨fun a U g mk q => by obtain ⟨q0, qP, qK⟩ := q; exact ⟨q0, qP, va_K.moved (u := U) (U := U.calling g mk a) (Vm.Alike.refl U.vm) qK⟩, va_recv hK hPx (ci := 10) (q0 := 0) rfl rfl, fun U hU hW => ⟨rfl, by rw [hU]; exact hPx, va_K.moved hW.alike hK⟩⟩ rfl rfl hl.1 rfl (lv_room (Nat.le_of_ble_eq_true rfl)) dX11_game_26 ⟨Nat.zero_le _, Nat.zero_le _⟩)) (fun r_14 e_14 => ?_)
          subst e_14
          refine W.eq (g2 := F0 m 29 ls [.null]) rfl ?_
          refine lv_ifnullN (tgt := 41) hx hb dX11_game_29 (by decide) ?_
          refine lv_bipush (v := (-2)) hx hb dX11_game_41 (by decide) ?_
          refine W.widen (k := 1) (n := 1) (by omega) (by omega) ?_
          exact W.iret (v := (-2)) hx hb hr (fun t ht hW => ⟨⟨(-2), (), rfl, (by unfold f_game; (repeat' split) <;> first | rfl | (simp only [fa_lt, fa_le, fa_eq, ti_m1, ti_0, ti_1, ti_2, ti_3, ti_4, ti_5, ti_6, ti_60] at *; omega)), trivial⟩, hS.F ht⟩) hS.2.2 dX11_game_43
    · skip
      refine lv_if_eq (tgt := 41) hx hb dX11_game_16 (by decide) (fun c_15 => ?_) (fun c_15 => ?_)
      · skip
        refine lv_bipush (v := (-2)) hx hb dX11_game_41 (by decide) ?_
        refine W.widen (k := 1) (n := 1) (by omega) (by omega) ?_
        exact W.iret (v := (-2)) hx hb hr (fun t ht hW => ⟨⟨(-2), (), rfl, (by unfold f_game; (repeat' split) <;> first | rfl | (simp only [fa_lt, fa_le, fa_eq, ti_m1, ti_0, ti_1, ti_2, ti_3, ti_4, ti_5, ti_6, ti_60] at *; omega)), trivial⟩, hS.F ht⟩) hS.2.2 dX11_game_43
      · exact absurd c_15 (by decide +kernel)
def vsX11_forget : List Cond := .code yX11_forget cX11_forget 2 (some .int) :: ([.fieldLink RX11 43 "CardTables" "notes" "LCardTables$Notes;", .fieldLink RX11 290 "CardTables$Notes" "bodyCount" "I"] ++ (wsX110 ++ (wsX60 ++ [])))
set_option maxRecDepth 100000 in
theorem gl_X11_forget : GoodIn lw_tbl vsX11_forget := gi_t 992 rfl rfl (goodIn_app (gi_t 303 (by decide +kernel) rfl (gi_t 223 (by decide +kernel) rfl gi_nil)) (goodIn_app gc_X11 (goodIn_app gc_X6 gi_nil)))
set_option maxHeartbeats 4000000 in
set_option maxRecDepth 100000 in
theorem c_X11_forget (l : Launch) (dC : Nat → ClassId) (dI : Nat → Nat → Nat) (a : Nat → Nat) (cG cT : ClassId) (ft : Nat → Option Nat) (TL : va_W) (hT : fr_T ft TL) (sz : Nat) : Met l yX11_forget vsX11_forget ({ frames := 0, cells := 0, slots := 0, locals := 0 }) (va_Pc [.ref (a 0)] (fun U => U.heap.size = sz ∧ va_P (dC, dI) vwCl (wX a cG cT ft TL) U.heap ∧ va_K (dC, dI) vwCl (tX cG cT) U ∧ va_D (fun _ => True) (wX a cG cT ft TL))) (va_Qi (fun r (_ : Unit) => r = 0) (fun _ _ => True) (va_A (wX a cG cT ft TL) sz)) 0 0 (va_A (wX a cG cT ft TL) sz) := by
  refine Met.ofW (cc := cX11_forget) (maxL := 2) (ret := (some .int)) (by decide) rfl ?_
  intro p e s m args below meth c s₁ B hml hv
  obtain ⟨rfl, hsz, hPx, hK, hD0⟩ := hv
  have hx := B.exec
  have hb := B.bytes
  have hr := B.returns
  have hts := atoms_spec (ws := vsX11_forget) B.pre
  have hown : s.vm.findClass RX11 = some m.cls := findClass_of_methodNamed B.named
  have hlocks := B.notSynchronized
  subst hsz
  have hDx := hD0.self (sz := s.heap.size)
  generalize hAe : va_A (wX a cG cT ft TL) s.heap.size = A at hDx ⊢
  have hA : ∀ q : Nat, s.heap.size ≤ q → A q := fun q h => by rw [← hAe]; exact Or.inr h
  have hS : va_S A s.heap s.heap [] := va_S.rf
  have hP := hPx.sub (ws' := [(a 0, .inr (10, [.ref (a 1), .ref (a 2), .ref (a 4), .ref (a 5), .ref (a 6), .ref (a 7), .ref (a 3), .ref (a 8), .ref (a 9)])), (a 1, .inl (cG, 6, .inr (.inr (.inr (.inr (fun _ => none)))))), (a 2, .inl (cT, 4, .inr (.inr (.inr (.inr ft))))), (a 3, .inr (5, [.int 0, .ref (a 10), .ref (a 11), .int 0, .int 0, .int 0, .int 0]))]) [0, 1, 2, 3] rfl
  have hD := hDx.sub (ws' := [(a 0, .inr (10, [.ref (a 1), .ref (a 2), .ref (a 4), .ref (a 5), .ref (a 6), .ref (a 7), .ref (a 3), .ref (a 8), .ref (a 9)])), (a 1, .inl (cG, 6, .inr (.inr (.inr (.inr (fun _ => none)))))), (a 2, .inl (cT, 4, .inr (.inr (.inr (.inr ft))))), (a 3, .inr (5, [.int 0, .ref (a 10), .ref (a 11), .int 0, .int 0, .int 0, .int 0]))]) [0, 1, 2, 3] (by decide) rfl
  have hl := lv_entry ([.ref (a 0)]) (n := 2) (Nat.le_of_ble_eq_true rfl)
  rw [lg_entry_eq]
  generalize (lg_sl ([.ref (a 0)]) ++ List.replicate (2 - (lg_sl ([.ref (a 0)])).length) Slot.unset).toArray = ls at hl ⊢
  have hl : lv_has ls 2 [(0, .ref (a 0))] := hl
  refine lv_aload_n hx hb dX11_forget_0 rfl (lv_at hl 0 rfl) ?_
  refine va_get (D := (dC, dI)) (ci := 10) (v := .ref (a 3)) (C := RX11) (T := TX11) (N := 9) hx hb hts (by decide +kernel) hown hK hP 0 rfl rfl 6 (by decide) (hts (.fieldLink RX11 43 "CardTables" "notes" "LCardTables$Notes;") (List.mem_of_getElem? (l := vsX11_forget) (i := 1) rfl)) (fun _ h9 => h9) rfl dX11_forget_1 ?_
  refine va_get (D := (dC, dI)) (ci := 5) (v := .int 0) (C := RX6) (T := TX6) (N := 7) hx hb hts (by decide +kernel) hown hK hP 3 rfl rfl 3 (by decide) (hts (.fieldLink RX11 290 "CardTables$Notes" "bodyCount" "I") (List.mem_of_getElem? (l := vsX11_forget) (i := 2) rfl)) (fun _ h9 => h9) rfl dX11_forget_4 ?_
  refine lv_istore_n (lv' := [(1, .int 0), (0, .ref (a 0))]) hx hb dX11_forget_7 rfl hl (by decide) rfl (fun ls hl => ?_)
  refine lv_aload_n hx hb dX11_forget_8 rfl (lv_at hl 1 rfl) ?_
  refine va_get (D := (dC, dI)) (ci := 10) (v := .ref (a 3)) (C := RX11) (T := TX11) (N := 9) hx hb hts (by decide +kernel) hown hK hP 0 rfl rfl 6 (by decide) (hts (.fieldLink RX11 43 "CardTables" "notes" "LCardTables$Notes;") (List.mem_of_getElem? (l := vsX11_forget) (i := 1) rfl)) (fun _ h9 => h9) rfl dX11_forget_9 ?_
  refine lv_iconst (v := 0) hx hb dX11_forget_12 (by decide) ?_
  refine va_put (D := (dC, dI)) (ci := 5) (v := .int 0) (ty := .int) (C := RX6) (T := TX6) (N := 7) hx hb hts (by decide +kernel) tyX6 tyX6_ok nmX6 hown hK hP hD hS 3 rfl rfl 3 (by decide) (hts (.fieldLink RX11 290 "CardTables$Notes" "bodyCount" "I") (List.mem_of_getElem? (l := vsX11_forget) (i := 2) rfl)) (fun _ h9 => h9) rfl (by decide +kernel) rfl rfl (Nat.le_of_ble_eq_true rfl) dX11_forget_13 (fun H locs hP hD hS => ?_)
  have hP : va_P (dC, dI) vwCl [(a 0, .inr (10, [.ref (a 1), .ref (a 2), .ref (a 4), .ref (a 5), .ref (a 6), .ref (a 7), .ref (a 3), .ref (a 8), .ref (a 9)])), (a 1, .inl (cG, 6, .inr (.inr (.inr (.inr (fun _ => none)))))), (a 2, .inl (cT, 4, .inr (.inr (.inr (.inr ft))))), (a 3, .inr (5, [.int 0, .ref (a 10), .ref (a 11), .int 0, .int 0, .int 0, .int 0]))] H := hP
  have hD : va_D A [(a 0, .inr (10, [.ref (a 1), .ref (a 2), .ref (a 4), .ref (a 5), .ref (a 6), .ref (a 7), .ref (a 3), .ref (a 8), .ref (a 9)])), (a 1, .inl (cG, 6, .inr (.inr (.inr (.inr (fun _ => none)))))), (a 2, .inl (cT, 4, .inr (.inr (.inr (.inr ft))))), (a 3, .inr (5, [.int 0, .ref (a 10), .ref (a 11), .int 0, .int 0, .int 0, .int 0]))] := hD
  refine lv_iload_n hx hb dX11_forget_16 rfl (lv_at hl 0 rfl) ?_
  exact W.iret (v := 0) hx hb hr (fun t ht hW => ⟨⟨0, (), rfl, rfl, trivial⟩, hS.F ht⟩) hS.2.2 dX11_forget_17
def vsX12_game : List Cond := .code yX12_game cX12_game 7 (some .int) :: ([.fieldLink RX12 21 "CardTablesModel" "gameKind" "[I", .fieldLink RX12 24 "CardTablesModel" "gameFirst" "[I", .fieldLink RX12 27 "CardTablesModel" "gameSecond" "[I"] ++ (wsX120 ++ (va_wsS RX12 91 yX12_in vsX12_in ++ (wsV RX12 99 RX12 yX12_isGame vsX12_isGame ++ []))))
set_option maxRecDepth 100000 in
theorem gl_X12_game : GoodIn lw_tbl vsX12_game := gi_t 1130 rfl rfl (goodIn_app (gi_t 1020 (by decide +kernel) rfl (gi_t 1021 (by decide +kernel) rfl (gi_t 1022 (by decide +kernel) rfl gi_nil))) (goodIn_app gc_X12 (goodIn_app gv_RX12_91 (goodIn_app gv_RX12_99 gi_nil))))
theorem g_X12_game_X12_in : GoodIn vsX12_game (va_wsS RX12 91 yX12_in vsX12_in) := fun w h => ⟨List.mem_cons_of_mem _ (List.mem_append_right _ (List.mem_append_right _ (List.mem_append_left _ h))), (gv_RX12_91 w h).2⟩
theorem g_X12_game_X12_isGame : GoodIn vsX12_game (wsV RX12 99 RX12 yX12_isGame vsX12_isGame) := fun w h => ⟨List.mem_cons_of_mem _ (List.mem_append_right _ (List.mem_append_right _ (List.mem_append_right _ (List.mem_append_left _ h)))), (gv_RX12_99 w h).2⟩
set_option maxHeartbeats 4000000 in
set_option maxRecDepth 100000 in
theorem c_X12_game (l : Launch) (dC : Nat → ClassId) (dI : Nat → Nat → Nat) (b : Nat → Nat) (c1 c2 c3 c4 : ClassId) (fk : Nat → Int32) (hF : ∀ j, j < 6 → fk j = -1) (sz : Nat) (g : Int32) (k : Int32) (p3 : Int32) (p4 : Int32) : Met l yX12_game vsX12_game ({ frames := 2, cells := 0, slots := 0, locals := 43 }) (va_Pc [.ref (b 0), .int g, .int k, .int p3, .int p4] (fun U => U.heap.size = sz ∧ va_P (dC, dI) vwCl (wM b c1 c2 c3 c4 fk) U.heap ∧ va_K (dC, dI) vwCl (tM c1 c2 c3 c4) U ∧ va_D (fun _ => True) (wM b c1 c2 c3 c4 fk))) (va_Qi (fun r (_ : Unit) => r = f_game g k) (fun _ _ => True) (va_A (wM b c1 c2 c3 c4 fk) sz)) 0 0 (va_A (wM b c1 c2 c3 c4 fk) sz) := by
  refine Met.ofW (cc := cX12_game) (maxL := 7) (ret := (some .int)) (by decide) rfl ?_
  intro p e s m args below meth c s₁ B hml hv
  obtain ⟨rfl, hsz, hPx, hK, hD0⟩ := hv
  have hx := B.exec
  have hb := B.bytes
  have hr := B.returns
  have hts := atoms_spec (ws := vsX12_game) B.pre
  have hown : s.vm.findClass RX12 = some m.cls := findClass_of_methodNamed B.named
  have hlocks := B.notSynchronized
  subst hsz
  have hDx := hD0.self (sz := s.heap.size)
  generalize hAe : va_A (wM b c1 c2 c3 c4 fk) s.heap.size = A at hDx ⊢
  have hA : ∀ q : Nat, s.heap.size ≤ q → A q := fun q h => by rw [← hAe]; exact Or.inr h
  have hS : va_S A s.heap s.heap [] := va_S.rf
  have hP := hPx.sub (ws' := [(b 0, .inr (11, [.ref (b 5), .ref (b 1), .ref (b 6), .ref (b 2), .ref (b 3), .ref (b 4), .int 0, .int 0, .ref (b 7), .int 0, .ref (b 8), .int 0, .int 0, .ref (b 9), .int 0, .ref (b 10), .int 0, .int 0, .ref (b 11), .ref (b 12), .int 0, .ref (b 13), .ref (b 14), .int (-1), .int 0, .int 0, .ref (b 15), .int 0, .int 0, .ref (b 16), .ref (b 17), .ref (b 18), .ref (b 19), .ref (b 20), .int 0, .int 0])), (b 1, .inl (c1, 4, .inl (fun _ => 0))), (b 2, .inl (c2, 6, .inl fk)), (b 3, .inl (c3, 6, .inl (fun _ => 0))), (b 4, .inl (c4, 6, .inl (fun _ => 0)))]) [0, 1, 2, 3, 4] rfl
  have hD := hDx.sub (ws' := [(b 0, .inr (11, [.ref (b 5), .ref (b 1), .ref (b 6), .ref (b 2), .ref (b 3), .ref (b 4), .int 0, .int 0, .ref (b 7), .int 0, .ref (b 8), .int 0, .int 0, .ref (b 9), .int 0, .ref (b 10), .int 0, .int 0, .ref (b 11), .ref (b 12), .int 0, .ref (b 13), .ref (b 14), .int (-1), .int 0, .int 0, .ref (b 15), .int 0, .int 0, .ref (b 16), .ref (b 17), .ref (b 18), .ref (b 19), .ref (b 20), .int 0, .int 0])), (b 1, .inl (c1, 4, .inl (fun _ => 0))), (b 2, .inl (c2, 6, .inl fk)), (b 3, .inl (c3, 6, .inl (fun _ => 0))), (b 4, .inl (c4, 6, .inl (fun _ => 0)))]) [0, 1, 2, 3, 4] (by decide) rfl
  have hl := lv_entry ([.ref (b 0), .int g, .int k, .int p3, .int p4]) (n := 7) (Nat.le_of_ble_eq_true rfl)
  rw [lg_entry_eq]
  generalize (lg_sl ([.ref (b 0), .int g, .int k, .int p3, .int p4]) ++ List.replicate (7 - (lg_sl ([.ref (b 0), .int g, .int k, .int p3, .int p4])).length) Slot.unset).toArray = ls at hl ⊢
  have hl : lv_has ls 7 [(0, .ref (b 0)), (1, .int g), (2, .int k), (3, .int p3), (4, .int p4)] := hl
  refine lv_iload_n hx hb dX12_game_0 rfl (lv_at hl 1 rfl) ?_
  refine lv_iconst (v := 0) hx hb dX12_game_1 (by decide) ?_
  refine lv_iconst (v := 5) hx hb dX12_game_2 (by decide) ?_
  refine vp_callSi (va_Run.run (va_runS (As := [.int g, .int 0, .int 5]) (rest := []) ⟨hx, hb, hml, hown, hts⟩ (c_X12_in l dC dI  g 0 5) (va_cwS 3 hts g_X12_game_X12_in rfl rfl rfl (by decide +kernel) ⟨Nat.le_of_ble_eq_true rfl, Nat.le_of_ble_eq_true rfl⟩) ⟨fun a U g mk q => q, fun U hU hW => ⟨rfl, trivial⟩⟩ rfl rfl hl.1 rfl (lv_room (Nat.le_of_ble_eq_true rfl)) dX12_game_3 ⟨Nat.zero_le _, Nat.zero_le _⟩)) (fun r_1 e_1 => ?_)
  rcases e_1 with ⟨rfl, hy_2⟩ | ⟨rfl, hn_2⟩
  · skip
    refine lv_if_eq (tgt := 31) hx hb dX12_game_6 (by decide) (fun c_3 => ?_) (fun c_3 => ?_)
    · exact absurd c_3 (by decide +kernel)
    · skip
      refine lv_iload_n hx hb dX12_game_9 rfl (lv_at hl 2 rfl) ?_
      refine lv_iconst (v := 4) hx hb dX12_game_10 (by decide) ?_
      refine lv_icmp_ne (tgt := 34) hx hb dX12_game_11 (by decide) (fun c_4 => ?_) (fun c_4 => ?_)
      · skip
        refine lv_iload_n hx hb dX12_game_34 rfl (lv_at hl 2 rfl) ?_
        refine lv_iconst (v := 0) hx hb dX12_game_35 (by decide) ?_
        refine lv_iconst (v := 4) hx hb dX12_game_36 (by decide) ?_
        refine vp_callSi (va_Run.run (va_runS (As := [.int k, .int 0, .int 4]) (rest := []) ⟨hx, hb, hml, hown, hts⟩ (c_X12_in l dC dI  k 0 4) (va_cwS 3 hts g_X12_game_X12_in rfl rfl rfl (by decide +kernel) ⟨Nat.le_of_ble_eq_true rfl, Nat.le_of_ble_eq_true rfl⟩) ⟨fun a U g mk q => q, fun U hU hW => ⟨rfl, trivial⟩⟩ rfl rfl hl.1 rfl (lv_room (Nat.le_of_ble_eq_true rfl)) dX12_game_37 ⟨Nat.zero_le _, Nat.zero_le _⟩)) (fun r_5 e_5 => ?_)
        rcases e_5 with ⟨rfl, hy_6⟩ | ⟨rfl, hn_6⟩
        · skip
          refine lv_if_ne (tgt := 46) hx hb dX12_game_40 (by decide) (fun c_7 => ?_) (fun c_7 => ?_)
          · skip
            refine lv_iload_n hx hb dX12_game_46 rfl (lv_at hl 2 rfl) ?_
            refine lv_iconst (v := 4) hx hb dX12_game_47 (by decide) ?_
            refine lv_icmp_ne (tgt := 75) hx hb dX12_game_48 (by decide) (fun c_8 => ?_) (fun c_8 => ?_)
            · skip
              refine lv_iload_n hx hb dX12_game_75 rfl (lv_at hl 2 rfl) ?_
              refine lv_iconst (v := 4) hx hb dX12_game_76 (by decide) ?_
              refine lv_icmp_ne (tgt := 89) hx hb dX12_game_77 (by decide) (fun c_9 => ?_) (fun c_9 => ?_)
              · skip
                refine lv_iload_n hx hb dX12_game_89 rfl (lv_at hl 2 rfl) ?_
                refine lv_istore (lv' := [(5, .int k), (0, .ref (b 0)), (1, .int g), (2, .int k), (3, .int p3), (4, .int p4)]) hx hb dX12_game_90 hl (by decide) rfl (fun ls hl => ?_)
                refine lv_iload_n hx hb dX12_game_92 rfl (lv_at hl 3 rfl) ?_
                refine lv_iconst (v := 4) hx hb dX12_game_93 (by decide) ?_
                refine lv_icmp_ne (tgt := 107) hx hb dX12_game_94 (by decide) (fun c_10 => ?_) (fun c_10 => ?_)
                · skip
                  refine lv_iload_n hx hb dX12_game_107 rfl (lv_at hl 3 rfl) ?_
                  refine lv_istore (lv' := [(6, .int k), (5, .int k), (0, .ref (b 0)), (1, .int g), (2, .int k), (3, .int p3), (4, .int p4)]) hx hb dX12_game_108 hl (by decide) rfl (fun ls hl => ?_)
                  refine lv_aload_n hx hb dX12_game_110 rfl (lv_at hl 2 rfl) ?_
                  refine va_get (D := (dC, dI)) (ci := 11) (v := .ref (b 2)) (C := RX12) (T := TX12) (N := 36) hx hb hts (by decide +kernel) hown hK hP 0 rfl rfl 3 (by decide) (hts (.fieldLink RX12 21 "CardTablesModel" "gameKind" "[I") (List.mem_of_getElem? (l := vsX12_game) (i := 1) rfl)) (fun _ h9 => h9) rfl dX12_game_111 ?_
                  refine lv_iload_n hx hb dX12_game_114 rfl (lv_at hl 3 rfl) ?_
                  refine lv_iload_n hx hb dX12_game_115 rfl (lv_at hl 4 rfl) ?_
                  have hin_11 : vp_in g 6 := vp_in_iff.mpr (by simp only [ti_m1, ti_0, ti_1, ti_2, ti_3, ti_4, ti_5, ti_6, ti_60] at hy_2 ⊢; omega)
                  refine va_iast hx hb hK hP hD hS 2 1 rfl rfl hin_11 dX12_game_116 (fun H locs hP hD hS => ?_)
                  generalize hg_11 : upd (fk) (g).toNatClampNeg k = fg_11 at hP hD
                  have hP : va_P (dC, dI) vwCl [(b 0, .inr (11, [.ref (b 5), .ref (b 1), .ref (b 6), .ref (b 2), .ref (b 3), .ref (b 4), .int 0, .int 0, .ref (b 7), .int 0, .ref (b 8), .int 0, .int 0, .ref (b 9), .int 0, .ref (b 10), .int 0, .int 0, .ref (b 11), .ref (b 12), .int 0, .ref (b 13), .ref (b 14), .int (-1), .int 0, .int 0, .ref (b 15), .int 0, .int 0, .ref (b 16), .ref (b 17), .ref (b 18), .ref (b 19), .ref (b 20), .int 0, .int 0])), (b 1, .inl (c1, 4, .inl (fun _ => 0))), (b 2, .inl (c2, 6, .inl fg_11)), (b 3, .inl (c3, 6, .inl (fun _ => 0))), (b 4, .inl (c4, 6, .inl (fun _ => 0)))] H := hP
                  have hD : va_D A [(b 0, .inr (11, [.ref (b 5), .ref (b 1), .ref (b 6), .ref (b 2), .ref (b 3), .ref (b 4), .int 0, .int 0, .ref (b 7), .int 0, .ref (b 8), .int 0, .int 0, .ref (b 9), .int 0, .ref (b 10), .int 0, .int 0, .ref (b 11), .ref (b 12), .int 0, .ref (b 13), .ref (b 14), .int (-1), .int 0, .int 0, .ref (b 15), .int 0, .int 0, .ref (b 16), .ref (b 17), .ref (b 18), .ref (b 19), .ref (b 20), .int 0, .int 0])), (b 1, .inl (c1, 4, .inl (fun _ => 0))), (b 2, .inl (c2, 6, .inl fg_11)), (b 3, .inl (c3, 6, .inl (fun _ => 0))), (b 4, .inl (c4, 6, .inl (fun _ => 0)))] := hD
                  refine lv_aload_n hx hb dX12_game_117 rfl (lv_at hl 2 rfl) ?_
                  refine va_get (D := (dC, dI)) (ci := 11) (v := .ref (b 3)) (C := RX12) (T := TX12) (N := 36) hx hb hts (by decide +kernel) hown hK hP 0 rfl rfl 4 (by decide) (hts (.fieldLink RX12 24 "CardTablesModel" "gameFirst" "[I") (List.mem_of_getElem? (l := vsX12_game) (i := 2) rfl)) (fun _ h9 => h9) rfl dX12_game_118 ?_
                  refine lv_iload_n hx hb dX12_game_121 rfl (lv_at hl 3 rfl) ?_
                  refine lv_iload hx hb dX12_game_122 (lv_at hl 1 rfl) ?_
                  have hin_12 : vp_in g 6 := vp_in_iff.mpr (by simp only [ti_m1, ti_0, ti_1, ti_2, ti_3, ti_4, ti_5, ti_6, ti_60] at hy_2 ⊢; omega)
                  refine va_iast hx hb hK hP hD hS 3 2 rfl rfl hin_12 dX12_game_124 (fun H locs hP hD hS => ?_)
                  generalize hg_12 : upd (fun _ => 0) (g).toNatClampNeg k = fg_12 at hP hD
                  have hP : va_P (dC, dI) vwCl [(b 0, .inr (11, [.ref (b 5), .ref (b 1), .ref (b 6), .ref (b 2), .ref (b 3), .ref (b 4), .int 0, .int 0, .ref (b 7), .int 0, .ref (b 8), .int 0, .int 0, .ref (b 9), .int 0, .ref (b 10), .int 0, .int 0, .ref (b 11), .ref (b 12), .int 0, .ref (b 13), .ref (b 14), .int (-1), .int 0, .int 0, .ref (b 15), .int 0, .int 0, .ref (b 16), .ref (b 17), .ref (b 18), .ref (b 19), .ref (b 20), .int 0, .int 0])), (b 1, .inl (c1, 4, .inl (fun _ => 0))), (b 2, .inl (c2, 6, .inl fg_11)), (b 3, .inl (c3, 6, .inl fg_12)), (b 4, .inl (c4, 6, .inl (fun _ => 0)))] H := hP
                  have hD : va_D A [(b 0, .inr (11, [.ref (b 5), .ref (b 1), .ref (b 6), .ref (b 2), .ref (b 3), .ref (b 4), .int 0, .int 0, .ref (b 7), .int 0, .ref (b 8), .int 0, .int 0, .ref (b 9), .int 0, .ref (b 10), .int 0, .int 0, .ref (b 11), .ref (b 12), .int 0, .ref (b 13), .ref (b 14), .int (-1), .int 0, .int 0, .ref (b 15), .int 0, .int 0, .ref (b 16), .ref (b 17), .ref (b 18), .ref (b 19), .ref (b 20), .int 0, .int 0])), (b 1, .inl (c1, 4, .inl (fun _ => 0))), (b 2, .inl (c2, 6, .inl fg_11)), (b 3, .inl (c3, 6, .inl fg_12)), (b 4, .inl (c4, 6, .inl (fun _ => 0)))] := hD
                  refine lv_aload_n hx hb dX12_game_125 rfl (lv_at hl 2 rfl) ?_
                  refine va_get (D := (dC, dI)) (ci := 11) (v := .ref (b 4)) (C := RX12) (T := TX12) (N := 36) hx hb hts (by decide +kernel) hown hK hP 0 rfl rfl 5 (by decide) (hts (.fieldLink RX12 27 "CardTablesModel" "gameSecond" "[I") (List.mem_of_getElem? (l := vsX12_game) (i := 3) rfl)) (fun _ h9 => h9) rfl dX12_game_126 ?_
                  refine lv_iload_n hx hb dX12_game_129 rfl (lv_at hl 3 rfl) ?_
                  refine lv_iload hx hb dX12_game_130 (lv_at hl 0 rfl) ?_
                  have hin_13 : vp_in g 6 := vp_in_iff.mpr (by simp only [ti_m1, ti_0, ti_1, ti_2, ti_3, ti_4, ti_5, ti_6, ti_60] at hy_2 ⊢; omega)
                  refine va_iast hx hb hK hP hD hS 4 3 rfl rfl hin_13 dX12_game_132 (fun H locs hP hD hS => ?_)
                  generalize hg_13 : upd (fun _ => 0) (g).toNatClampNeg k = fg_13 at hP hD
                  have hP : va_P (dC, dI) vwCl [(b 0, .inr (11, [.ref (b 5), .ref (b 1), .ref (b 6), .ref (b 2), .ref (b 3), .ref (b 4), .int 0, .int 0, .ref (b 7), .int 0, .ref (b 8), .int 0, .int 0, .ref (b 9), .int 0, .ref (b 10), .int 0, .int 0, .ref (b 11), .ref (b 12), .int 0, .ref (b 13), .ref (b 14), .int (-1), .int 0, .int 0, .ref (b 15), .int 0, .int 0, .ref (b 16), .ref (b 17), .ref (b 18), .ref (b 19), .ref (b 20), .int 0, .int 0])), (b 1, .inl (c1, 4, .inl (fun _ => 0))), (b 2, .inl (c2, 6, .inl fg_11)), (b 3, .inl (c3, 6, .inl fg_12)), (b 4, .inl (c4, 6, .inl fg_13))] H := hP
                  have hD : va_D A [(b 0, .inr (11, [.ref (b 5), .ref (b 1), .ref (b 6), .ref (b 2), .ref (b 3), .ref (b 4), .int 0, .int 0, .ref (b 7), .int 0, .ref (b 8), .int 0, .int 0, .ref (b 9), .int 0, .ref (b 10), .int 0, .int 0, .ref (b 11), .ref (b 12), .int 0, .ref (b 13), .ref (b 14), .int (-1), .int 0, .int 0, .ref (b 15), .int 0, .int 0, .ref (b 16), .ref (b 17), .ref (b 18), .ref (b 19), .ref (b 20), .int 0, .int 0])), (b 1, .inl (c1, 4, .inl (fun _ => 0))), (b 2, .inl (c2, 6, .inl fg_11)), (b 3, .inl (c3, 6, .inl fg_12)), (b 4, .inl (c4, 6, .inl fg_13))] := hD
                  refine lv_iconst (v := 1) hx hb dX12_game_133 (by decide) ?_
                  exact W.iret (v := 1) hx hb hr (fun t ht hW => ⟨⟨1, (), rfl, (by unfold f_game; (repeat' split) <;> first | rfl | (simp only [fa_lt, fa_le, fa_eq, ti_m1, ti_0, ti_1, ti_2, ti_3, ti_4, ti_5, ti_6, ti_60] at *; omega)), trivial⟩, hS.F ht⟩) hS.2.2 dX12_game_134
                · exact absurd c_10 c_4
              · exact absurd c_9 c_4
            · exact absurd c_8 c_4
          · exact absurd c_7 (by decide +kernel)
        · skip
          refine lv_if_ne (tgt := 46) hx hb dX12_game_40 (by decide) (fun c_14 => ?_) (fun c_14 => ?_)
          · exact absurd c_14 (by decide +kernel)
          · skip
            refine lv_bipush (v := (-3)) hx hb dX12_game_43 (by decide) ?_
            exact W.iret (v := (-3)) hx hb hr (fun t ht hW => ⟨⟨(-3), (), rfl, (by unfold f_game; (repeat' split) <;> first | rfl | (simp only [fa_lt, fa_le, fa_eq, ti_m1, ti_0, ti_1, ti_2, ti_3, ti_4, ti_5, ti_6, ti_60] at *; omega)), trivial⟩, hS.F ht⟩) hS.2.2 dX12_game_45
      · skip
        refine lv_aload_n hx hb dX12_game_14 rfl (lv_at hl 0 rfl) ?_
        refine lv_iload_n hx hb dX12_game_15 rfl (lv_at hl 3 rfl) ?_
        refine vp_callSi (va_Run.run (va_runV (As := [.int p3]) (rest := []) ⟨hx, hb, hml, hown, hts⟩ (c_X12_isGame l dC dI b c1 c2 c3 c4 fk hF p3) (cwV 1 hts g_X12_game_X12_isGame rfl rfl rfl (by decide +kernel) ⟨Nat.le_of_ble_eq_true rfl, Nat.le_of_ble_eq_true rfl⟩) ⟨fun a U g mk q => by obtain ⟨q0, qP, qK⟩ := q; exact ⟨q0, qP, va_K.moved (u := U) (U := U.calling g mk a) (Vm.Alike.refl U.vm) qK⟩, va_recv hK hPx (ci := 11) (q0 := 0) rfl rfl, fun U hU hW => ⟨rfl, by rw [hU]; exact hPx, va_K.moved hW.alike hK⟩⟩ rfl rfl hl.1 rfl (lv_room (Nat.le_of_ble_eq_true rfl)) dX12_game_16 ⟨Nat.zero_le _, Nat.zero_le _⟩)) (fun r_15 e_15 => ?_)
        subst e_15
        refine lv_if_eq (tgt := 31) hx hb dX12_game_19 (by decide) (fun c_16 => ?_) (fun c_16 => ?_)
        · skip
          refine lv_bipush (v := (-2)) hx hb dX12_game_31 (by decide) ?_
          exact W.iret (v := (-2)) hx hb hr (fun t ht hW => ⟨⟨(-2), (), rfl, (by unfold f_game; (repeat' split) <;> first | rfl | (simp only [fa_lt, fa_le, fa_eq, ti_m1, ti_0, ti_1, ti_2, ti_3, ti_4, ti_5, ti_6, ti_60] at *; omega)), trivial⟩, hS.F ht⟩) hS.2.2 dX12_game_33
        · exact absurd c_16 (by decide +kernel)
  · skip
    refine lv_if_eq (tgt := 31) hx hb dX12_game_6 (by decide) (fun c_17 => ?_) (fun c_17 => ?_)
    · skip
      refine lv_bipush (v := (-2)) hx hb dX12_game_31 (by decide) ?_
      exact W.iret (v := (-2)) hx hb hr (fun t ht hW => ⟨⟨(-2), (), rfl, (by unfold f_game; (repeat' split) <;> first | rfl | (simp only [fa_lt, fa_le, fa_eq, ti_m1, ti_0, ti_1, ti_2, ti_3, ti_4, ti_5, ti_6, ti_60] at *; omega)), trivial⟩, hS.F ht⟩) hS.2.2 dX12_game_33
    · exact absurd c_17 (by decide +kernel)
def vsX12_forget : List Cond := .code yX12_forget cX12_forget 2 (some .int) :: ([.fieldLink RX12 82 "CardTablesModel" "traced" "I"] ++ (wsX120 ++ []))
set_option maxRecDepth 100000 in
theorem gl_X12_forget : GoodIn lw_tbl vsX12_forget := gi_t 1491 rfl rfl (goodIn_app (gi_t 1028 (by decide +kernel) rfl gi_nil) (goodIn_app gc_X12 gi_nil))
set_option maxHeartbeats 4000000 in
set_option maxRecDepth 100000 in
theorem c_X12_forget (l : Launch) (dC : Nat → ClassId) (dI : Nat → Nat → Nat) (b : Nat → Nat) (c1 c2 c3 c4 : ClassId) (fk : Nat → Int32) (hF : ∀ j, j < 6 → fk j = -1) (sz : Nat) : Met l yX12_forget vsX12_forget ({ frames := 0, cells := 0, slots := 0, locals := 0 }) (va_Pc [.ref (b 0)] (fun U => U.heap.size = sz ∧ va_P (dC, dI) vwCl (wM b c1 c2 c3 c4 fk) U.heap ∧ va_K (dC, dI) vwCl (tM c1 c2 c3 c4) U ∧ va_D (fun _ => True) (wM b c1 c2 c3 c4 fk))) (va_Qi (fun r (_ : Unit) => r = 0) (fun _ _ => True) (va_A (wM b c1 c2 c3 c4 fk) sz)) 0 0 (va_A (wM b c1 c2 c3 c4 fk) sz) := by
  refine Met.ofW (cc := cX12_forget) (maxL := 2) (ret := (some .int)) (by decide) rfl ?_
  intro p e s m args below meth c s₁ B hml hv
  obtain ⟨rfl, hsz, hPx, hK, hD0⟩ := hv
  have hx := B.exec
  have hb := B.bytes
  have hr := B.returns
  have hts := atoms_spec (ws := vsX12_forget) B.pre
  have hown : s.vm.findClass RX12 = some m.cls := findClass_of_methodNamed B.named
  have hlocks := B.notSynchronized
  subst hsz
  have hDx := hD0.self (sz := s.heap.size)
  generalize hAe : va_A (wM b c1 c2 c3 c4 fk) s.heap.size = A at hDx ⊢
  have hA : ∀ q : Nat, s.heap.size ≤ q → A q := fun q h => by rw [← hAe]; exact Or.inr h
  have hS : va_S A s.heap s.heap [] := va_S.rf
  have hP := hPx.sub (ws' := [(b 0, .inr (11, [.ref (b 5), .ref (b 1), .ref (b 6), .ref (b 2), .ref (b 3), .ref (b 4), .int 0, .int 0, .ref (b 7), .int 0, .ref (b 8), .int 0, .int 0, .ref (b 9), .int 0, .ref (b 10), .int 0, .int 0, .ref (b 11), .ref (b 12), .int 0, .ref (b 13), .ref (b 14), .int (-1), .int 0, .int 0, .ref (b 15), .int 0, .int 0, .ref (b 16), .ref (b 17), .ref (b 18), .ref (b 19), .ref (b 20), .int 0, .int 0])), (b 1, .inl (c1, 4, .inl (fun _ => 0))), (b 2, .inl (c2, 6, .inl fk)), (b 3, .inl (c3, 6, .inl (fun _ => 0))), (b 4, .inl (c4, 6, .inl (fun _ => 0)))]) [0, 1, 2, 3, 4] rfl
  have hD := hDx.sub (ws' := [(b 0, .inr (11, [.ref (b 5), .ref (b 1), .ref (b 6), .ref (b 2), .ref (b 3), .ref (b 4), .int 0, .int 0, .ref (b 7), .int 0, .ref (b 8), .int 0, .int 0, .ref (b 9), .int 0, .ref (b 10), .int 0, .int 0, .ref (b 11), .ref (b 12), .int 0, .ref (b 13), .ref (b 14), .int (-1), .int 0, .int 0, .ref (b 15), .int 0, .int 0, .ref (b 16), .ref (b 17), .ref (b 18), .ref (b 19), .ref (b 20), .int 0, .int 0])), (b 1, .inl (c1, 4, .inl (fun _ => 0))), (b 2, .inl (c2, 6, .inl fk)), (b 3, .inl (c3, 6, .inl (fun _ => 0))), (b 4, .inl (c4, 6, .inl (fun _ => 0)))]) [0, 1, 2, 3, 4] (by decide) rfl
  have hl := lv_entry ([.ref (b 0)]) (n := 2) (Nat.le_of_ble_eq_true rfl)
  rw [lg_entry_eq]
  generalize (lg_sl ([.ref (b 0)]) ++ List.replicate (2 - (lg_sl ([.ref (b 0)])).length) Slot.unset).toArray = ls at hl ⊢
  have hl : lv_has ls 2 [(0, .ref (b 0))] := hl
  refine lv_aload_n hx hb dX12_forget_0 rfl (lv_at hl 0 rfl) ?_
  refine va_get (D := (dC, dI)) (ci := 11) (v := .int 0) (C := RX12) (T := TX12) (N := 36) hx hb hts (by decide +kernel) hown hK hP 0 rfl rfl 11 (by decide) (hts (.fieldLink RX12 82 "CardTablesModel" "traced" "I") (List.mem_of_getElem? (l := vsX12_forget) (i := 1) rfl)) (fun _ h9 => h9) rfl dX12_forget_1 ?_
  refine lv_istore_n (lv' := [(1, .int 0), (0, .ref (b 0))]) hx hb dX12_forget_4 rfl hl (by decide) rfl (fun ls hl => ?_)
  refine lv_aload_n hx hb dX12_forget_5 rfl (lv_at hl 1 rfl) ?_
  refine lv_iconst (v := 0) hx hb dX12_forget_6 (by decide) ?_
  refine va_put (D := (dC, dI)) (ci := 11) (v := .int 0) (ty := .int) (C := RX12) (T := TX12) (N := 36) hx hb hts (by decide +kernel) tyX12 tyX12_ok nmX12 hown hK hP hD hS 0 rfl rfl 11 (by decide) (hts (.fieldLink RX12 82 "CardTablesModel" "traced" "I") (List.mem_of_getElem? (l := vsX12_forget) (i := 1) rfl)) (fun _ h9 => h9) rfl (by decide +kernel) rfl rfl (Nat.le_of_ble_eq_true rfl) dX12_forget_7 (fun H locs hP hD hS => ?_)
  have hP : va_P (dC, dI) vwCl [(b 0, .inr (11, [.ref (b 5), .ref (b 1), .ref (b 6), .ref (b 2), .ref (b 3), .ref (b 4), .int 0, .int 0, .ref (b 7), .int 0, .ref (b 8), .int 0, .int 0, .ref (b 9), .int 0, .ref (b 10), .int 0, .int 0, .ref (b 11), .ref (b 12), .int 0, .ref (b 13), .ref (b 14), .int (-1), .int 0, .int 0, .ref (b 15), .int 0, .int 0, .ref (b 16), .ref (b 17), .ref (b 18), .ref (b 19), .ref (b 20), .int 0, .int 0])), (b 1, .inl (c1, 4, .inl (fun _ => 0))), (b 2, .inl (c2, 6, .inl fk)), (b 3, .inl (c3, 6, .inl (fun _ => 0))), (b 4, .inl (c4, 6, .inl (fun _ => 0)))] H := hP
  have hD : va_D A [(b 0, .inr (11, [.ref (b 5), .ref (b 1), .ref (b 6), .ref (b 2), .ref (b 3), .ref (b 4), .int 0, .int 0, .ref (b 7), .int 0, .ref (b 8), .int 0, .int 0, .ref (b 9), .int 0, .ref (b 10), .int 0, .int 0, .ref (b 11), .ref (b 12), .int 0, .ref (b 13), .ref (b 14), .int (-1), .int 0, .int 0, .ref (b 15), .int 0, .int 0, .ref (b 16), .ref (b 17), .ref (b 18), .ref (b 19), .ref (b 20), .int 0, .int 0])), (b 1, .inl (c1, 4, .inl (fun _ => 0))), (b 2, .inl (c2, 6, .inl fk)), (b 3, .inl (c3, 6, .inl (fun _ => 0))), (b 4, .inl (c4, 6, .inl (fun _ => 0)))] := hD
  refine lv_iload_n hx hb dX12_forget_10 rfl (lv_at hl 0 rfl) ?_
  exact W.iret (v := 0) hx hb hr (fun t ht hW => ⟨⟨0, (), rfl, rfl, trivial⟩, hS.F ht⟩) hS.2.2 dX12_forget_11
