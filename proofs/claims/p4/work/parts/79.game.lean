theorem gmin {l : Launch} {y : MethodName} {cc : ByteArray} {maxL d mc ms : Nat} {ret : Option FieldType} {Qc : Array Value → State → Outcome → State → Prop} {free : Addr → Prop} {av : List Value} {B0 : State → Prop} (hy : plainName y.cls = true) (hn : (lg_sl av).length ≤ maxL) (body : ∀ (p : Program) (e : Env) (s : State) (m : MethodId) (args : Array Value) (below : List Frame) (meth : Method) (c : Code) (ls : Array Slot) (Q : State → Prop), Q = MQ below Qc args s mc ms free → CallFix p m c cc maxL s args zw y.cls → meth.sig.returnType = ret → meth.locks = false → B0 s → lv_has ls maxL (lv_args 0 av) → W p l e (rmc d mc ms) s m args below meth c s.heap [] 0 0 Q (F0 m 0 ls [])) : Met l y (zc y cc maxL ret) (rmc d mc ms) (va_Pc av B0) Qc mc ms free := by
  refine Met.ofW (cc := cc) (maxL := maxL) (ret := ret) hy rfl ?_
  intro p e s m args below meth c s₁ B hml hv
  obtain ⟨rfl, hB⟩ := hv
  have hts := atoms_spec (ws := zc y cc maxL ret) B.pre
  have hown : s.vm.findClass y.cls = some m.cls := findClass_of_methodNamed B.named
  have hl := lv_entry av (n := maxL) hn
  rw [lg_entry_eq]
  exact body p e s m _ below meth c _ _ rfl ⟨B.exec, B.bytes, hml, hown, fun w hw => hts w (List.mem_cons_of_mem _ hw)⟩ B.returns B.notSynchronized hB hl
theorem kG_Ar {K : zK} {s : State} {h k g : Nat} {r : Nat → Nat} {t : Int32} (hAr : zAr K s) (hk : k = 0 ∨ k = 3 ∨ k = 4 ∨ k = 9 ∨ k = 6) : zAr (kG K h k r t g) s := fun a ha ty e => by
  by_cases c : a = h
  · subst c; rw [kG_at.2.1] at e
    rcases hk with rfl | rfl | rfl | rfl | rfl <;> cases e
  · rw [(kG_ne c).2.1] at e; rw [(kG_ne c).1]; exact hAr a ((List.mem_append.mp ha).resolve_right (fun q => c (List.mem_singleton.mp q))) ty e
set_option maxHeartbeats 4000000 in
set_option maxRecDepth 100000 in
theorem c_X11_game (l : Launch) (D : va_G) (K : zK) (hO : zOk K) (vi va : Nat → Nat → Int32) (vg : Nat → Nat → Option Nat) (hI : zI K (vi, va, vg)) (a0 : Nat) (ha0 : a0 ∈ zl K) (hk0 : zk K a0 = 10) (h22 : one22 K a0) (hgk : gok K) (sz : Nat) (x1 x2 x3 x4 : Int32) : Met l yX11_game (zc yX11_game cX11_game 9 (some .int)) (rmc 6 1 3) (va_Pc [.ref a0, .int x1, .int x2, .int x3, .int x4] (fun U => U.heap.size = sz ∧ zB D K (vi, va, vg) U ∧ va_Nc RX7 RX3 U)) (va_Qi (fun r (u : zK × zV) => gPost K a0 sz x1 x2 x3 x4 r u.1 u.2) (fun u t => va_P D vwCl (zW u.1 u.2) t.heap ∧ zAr u.1 t) (fun q => zA K q ∨ sz ≤ q)) 1 3 (fun q => zA K q ∨ sz ≤ q) := by
  refine gmin (by decide) (Nat.le_of_ble_eq_true rfl) ?_
  intro p e s m args below meth c ls Q hQ C hr hlocks hB hl
  obtain ⟨hsz, ⟨hP, hs⟩, hN⟩ := hB
  subst hsz
  have C : CallFix p m c cX11_game 9 s args zw RX11 := C
  obtain ⟨hx, hb, hml, hown, hts⟩ := id C
  have hS : va_S (zA K) s.heap s.heap [] := va_S.rf
  have hSA : va_S (fun q => zA K q ∨ s.heap.size ≤ q) s.heap s.heap [] := va_S.rf
  have hA1 : ∀ a ∈ zl K, (fun q => zA K q ∨ s.heap.size ≤ q) a := fun a h => Or.inl h
  have hA : ∀ q, s.heap.size ≤ q → (fun q => zA K q ∨ s.heap.size ≤ q) q := fun a h => Or.inr h
  have hAr : zAr K s := hs.2.1
  have hlt : ∀ a ∈ zl K, a < s.heap.size := fun a ha => by
    obtain ⟨i, hi⟩ := zl_at (f := zF K (vi, va, vg)) ha
    exact (hP i _ hi).lt
  have hl : lv_has ls 9 [(0, .ref a0), (1, .int x1), (2, .int x2), (3, .int x3), (4, .int x4)] := hl
  have ret0 : ∀ (r : Int32) (pc : Nat) (ls : Array Slot), decode cX11_game pc = .ok (.ireturn, 1) → gaR (gk K) x1 x2 x3 x4 r.toInt → r.toInt ≠ 1 → W p l e (rmc 6 1 3) s m args below meth c s.heap [] 0 0 Q (F0 m pc ls [.int r]) := by
    intro r pc ls hdg hR h1
    refine W.widen (k := 1) (n := 3) (by omega) (by omega) ?_
    rw [hQ]
    exact W.iret hx hb hr (fun t ht hW => ⟨⟨r, (K, (vi, va, vg)), rfl, ⟨hO, hI, fun _ _ _ h => h, fun a ha => Or.inl ha, ⟨h22, rfl⟩, hgk, hR, fun h9 => absurd h9 h1, fun _ _ _ => rfl⟩, by rw [ht]; exact hP, hAr.moved hW.alike⟩, hSA.F ht⟩) hSA.2.2 hdg hlocks
  have ret1 : ∀ (K' : zK) (V' : zV) (H : Heap) (locs : List Loc) (ls : Array Slot), gPost K a0 s.heap.size x1 x2 x3 x4 1 K' V' → va_P D vwCl (zW K' V') H → zAr K' s → va_S (fun q => zA K q ∨ s.heap.size ≤ q) s.heap H locs → W p l e (rmc 6 1 3) s m args below meth c H locs 1 3 Q (F0 m 142 ls []) := by
    intro K' V' H locs ls hp hP' hAr' hS'
    refine lv_iconst (v := 1) hx hb dX11_game_142 (by decide) ?_
    rw [hQ]
    exact W.iret hx hb hr (fun t ht hW => ⟨⟨1, (K', V'), rfl, hp, by rw [ht]; exact hP', hAr'.moved hW.alike⟩, hS'.F ht⟩) hS'.2.2 dX11_game_143 hlocks
  have l56 : ∀ (b : Int32) (ls : Array Slot), lv_has ls 9 [(5, .int b), (0, .ref a0), (1, .int x1), (2, .int x2), (3, .int x3), (4, .int x4)] → (0 ≤ x1.toInt ∧ x1.toInt ≤ 5) → (0 ≤ x2.toInt ∧ x2.toInt ≤ 4) → ((b = 1 ∧ x2.toInt = 4 ∧ (∃ q3, gA K x3 (some q3)) ∧ ∃ q4, gA K x4 (some q4)) ∨ (b = 0 ∧ x2.toInt ≠ 4)) → W p l e (rmc 6 1 3) s m args below meth c s.heap [] 0 0 Q (F0 m 56 ls []) := by
    intro b ls hl h1 hk hbb
    refine lv_iload hx hb dX11_game_56 (lv_at hl 0 rfl) ?_
    rcases hbb with ⟨rfl, h4, ⟨q3, g3⟩, ⟨q4, g4⟩⟩ | ⟨rfl, h4⟩
    · refine bz_ne (tgt := 74) hx hb ti_1 dX11_game_58 (by decide) (fun c1 => ?_) (fun c1 => absurd c1 (by decide))
      obtain ⟨i3, m3, a3, e3, r3, r3', f3, p3⟩ := g3.some hgk
      obtain ⟨i4, m4, a4, e4, r4, r4', f4, p4⟩ := g4.some hgk
      have n1 : ¬ gC1 (gk K) x1 x2 x3 x4 := fun h => by
        rcases h with h | ⟨_, h | h⟩
        · exact h h1
        · exact h i3
        · exact h i4
      have n2 : ¬ gC2 x2 := fun h => h hk
      refine lv_aload_n hx hb dX11_game_74 rfl (lv_at hl 1 rfl) ?_
      refine lv_iload_n hx hb dX11_game_75 rfl (lv_at hl 4 rfl) ?_
      refine zcSq (zrVr (As := [.int x3]) (b := a0) (rest := []) C hs hP hS (c_X11_gameAt l D K hO vi va vg hI a0 ha0 hk0 x3) m_X11_gameAt wm_X11_61 (zrecv hs hP ha0 (zF_10 hk0) rfl) ⟨Nat.le_of_ble_eq_true rfl, Nat.le_of_ble_eq_true rfl⟩ hl.1 (Nat.le_of_ble_eq_true rfl) dX11_game_76) (fun y3 => absurd i3 (gA.none y3)) (fun q y3 => ?_)
      have eq3 : q = q3 := by
        have h9 := (y3.2.1 i3.1 i3.2.1).trans (g3.2.1 i3.1 i3.2.1).symm
        exact Option.some.inj h9
      subst eq3
      refine lv_astore (lv' := [(8, .ref q), (5, .int 1), (0, .ref a0), (1, .int x1), (2, .int x2), (3, .int x3), (4, .int x4)]) hx hb dX11_game_79 hl (by decide) rfl (fun ls hl => ?_)
      refine lv_aload hx hb dX11_game_81 (lv_at hl 0 rfl) ?_
      refine g_inst C hs hP m3 a3 hN wk_X11_68 dX11_game_83 (fun w3 => ?_) (fun w3 => ?_)
      · refine bz_eq (tgt := 139) hx hb ti_1 dX11_game_86 (by decide) (fun c1 => absurd c1 (by decide)) (fun c1 => ?_)
        refine lv_aload hx hb dX11_game_89 (lv_at hl 0 rfl) ?_
        refine g_cast C hs hP m3 w3 wk_X11_68 dX11_game_91 ?_
        refine lv_astore (lv' := [(6, .ref q), (8, .ref q), (5, .int 1), (0, .ref a0), (1, .int x1), (2, .int x2), (3, .int x3), (4, .int x4)]) hx hb dX11_game_94 hl (by decide) rfl (fun ls hl => ?_)
        refine lv_aload_n hx hb dX11_game_96 rfl (lv_at hl 3 rfl) ?_
        refine lv_iload hx hb dX11_game_97 (lv_at hl 7 rfl) ?_
        refine zcSq (zrVr (As := [.int x4]) (b := a0) (rest := []) C hs hP hS (c_X11_gameAt l D K hO vi va vg hI a0 ha0 hk0 x4) m_X11_gameAt wm_X11_61 (zrecv hs hP ha0 (zF_10 hk0) rfl) ⟨Nat.le_of_ble_eq_true rfl, Nat.le_of_ble_eq_true rfl⟩ hl.1 (Nat.le_of_ble_eq_true rfl) dX11_game_99) (fun y4 => absurd i4 (gA.none y4)) (fun q2 y4 => ?_)
        have eq4 : q2 = q4 := by
          have h9 := (y4.2.1 i4.1 i4.2.1).trans (g4.2.1 i4.1 i4.2.1).symm
          exact Option.some.inj h9
        subst eq4
        refine lv_astore (lv' := [(8, .ref q2), (6, .ref q), (5, .int 1), (0, .ref a0), (1, .int x1), (2, .int x2), (3, .int x3), (4, .int x4)]) hx hb dX11_game_102 hl (by decide) rfl (fun ls hl => ?_)
        refine lv_aload hx hb dX11_game_104 (lv_at hl 0 rfl) ?_
        refine g_inst C hs hP m4 a4 hN wk_X11_68 dX11_game_106 (fun w4 => ?_) (fun w4 => ?_)
        · refine bz_eq (tgt := 139) hx hb ti_1 dX11_game_109 (by decide) (fun c1 => absurd c1 (by decide)) (fun c1 => ?_)
          refine lv_aload hx hb dX11_game_112 (lv_at hl 0 rfl) ?_
          refine g_cast C hs hP m4 w4 wk_X11_68 dX11_game_114 ?_
          refine lv_astore (lv' := [(7, .ref q2), (8, .ref q2), (6, .ref q), (5, .int 1), (0, .ref a0), (1, .int x1), (2, .int x2), (3, .int x3), (4, .int x4)]) hx hb dX11_game_117 hl (by decide) rfl (fun ls hl => ?_)
          refine lv_aload_n hx hb dX11_game_119 rfl (lv_at hl 4 rfl) ?_
          refine zg_10_0 C hs hP ha0 hk0 wf_X11_11 dX11_game_120 ?_
          refine lv_iload_n hx hb dX11_game_123 rfl (lv_at hl 5 rfl) ?_
          refine va_new (ci := 6) (fs := [.int 0, .null, .null]) (C := RX7) (T := TX7) (N := 3) hx hb hts in_6 tyX7 tyX7_ok hown (hts _ wk_X11_70) (hts _ wb_X7) (hts _ wn_X7) hs.1 hP (zl_D hO.1 hA1) hSA hA rfl (fun j hj => by rcases (show j = 0 ∨ j = 1 ∨ j = 2 by omega) with rfl | rfl | rfl <;> rfl) (Nat.le_of_ble_eq_true rfl) (Nat.le_of_ble_eq_true rfl) dX11_game_124 (fun h H hP1 hD1 hS1 => ?_)
          have hh : h ∉ zl K := fun h9 => by
            obtain ⟨i, hi⟩ := zl_at (f := zF K (vi, va, vg)) h9
            exact ap_ne hD1 hi (j := 0) rfl rfl
          have hAh : zA K h ∨ s.heap.size ≤ h := (ap_Dr hD1).2 0 _ rfl
          have hsz : s.heap.size ≤ h := hAh.resolve_left hh
          refine W.widen (k := 1) (n := 3) (by omega) (by omega) ?_
          refine lv_dup hx hb dX11_game_127 rfl ?_
          refine lv_aload hx hb dX11_game_128 (lv_at hl 2 rfl) ?_
          refine lv_aload hx hb dX11_game_130 (lv_at hl 0 rfl) ?_
          refine gcall (As := [.ref q, .ref q2]) (rest := [.ref h, .int x1, .ref (zr K a0 0)]) C (c_X7_init_6 l D h q q2) mc_X7_init wm_X11_72 ⟨Nat.le_of_ble_eq_true rfl, Nat.le_of_ble_eq_true rfl⟩ ⟨Nat.le_of_ble_eq_true rfl, Nat.le_of_ble_eq_true rfl⟩ hl.1 (Nat.le_of_ble_eq_true rfl) dX11_game_132 (ap_Pr hP1) hS1 hAh hs.1 (fun H2 locs hP2 hS2 hk2 => ?_)
          have hPK : va_P D vwCl (zW K (vi, va, vg)) H2 := fun i x hi => by
            have h9 := (ap_Pl hP1) i x hi
            exact h9.kept (hk2 x.1 h9.lt (fun e9 => hh (e9 ▸ pl_mem hi)))
          have hx4 : x2 = 4 := (fa_eq _ _).mpr (by rw [ti_4]; exact h4)
          subst hx4
          refine gstore (k := 6) (r := fun j => if j = 1 then q else q2) (t := 4) C hO hs ha0 hk0 h22 hh rfl (hs.2.2.2.2.2 (RX7, RX4) (List.mem_of_getElem? (i := 7) rfl)) hPK hP2 ⟨hA1, hAh⟩ hS2 h1 (fun K' V' e1 e2 e3 => by rw [zF_6 e1, e2, e3] <;> rfl) dX11_game_135 (fun H3 locs3 hP3 hS3 => ?_)
          refine lv_goto (tgt := 142) hx hb dX11_game_136 (by decide) ?_
          refine ret1 _ _ H3 locs3 ls (kG_post hO hI ha0 hh hsz h22 hgk (by decide) (fun _ j hj => ?_) h1 (fun h9 => absurd rfl h9) (fun _ => ti_4) (Or.inr (Or.inr (Or.inr ⟨n1, n2, fun h9 => ?_, rfl⟩)))) hP3 (kG_Ar hAr (by decide)) hS3
          · rcases hj with rfl | rfl
            · exact ⟨m3, w3⟩
            · exact ⟨m4, w4⟩
          · have h7 := f3 w3
            have h8 := f4 w4
            rcases h9 with ⟨_, h9 | h9⟩
            · rw [e3] at h9; omega
            · rw [e4] at h9; omega
        · refine bz_eq (tgt := 139) hx hb ti_0 dX11_game_109 (by decide) (fun c1 => ?_) (fun c1 => absurd rfl c1)
          refine lv_bipush (v := (-4)) hx hb dX11_game_139 (by decide) ?_
          exact ret0 _ _ _ dX11_game_141 (Or.inr (Or.inr (Or.inl ⟨n1, n2, ⟨h4, Or.inr (by rw [e4]; exact p4 w4)⟩, ti_m4⟩))) (by rw [ti_m4]; decide)
      · refine bz_eq (tgt := 139) hx hb ti_0 dX11_game_86 (by decide) (fun c1 => ?_) (fun c1 => absurd rfl c1)
        refine lv_bipush (v := (-4)) hx hb dX11_game_139 (by decide) ?_
        exact ret0 _ _ _ dX11_game_141 (Or.inr (Or.inr (Or.inl ⟨n1, n2, ⟨h4, Or.inl (by rw [e3]; exact p3 w3)⟩, ti_m4⟩))) (by rw [ti_m4]; decide)
    · refine bz_ne (tgt := 74) hx hb ti_0 dX11_game_58 (by decide) (fun c1 => absurd rfl c1) (fun c1 => ?_)
      have n1 : ¬ gC1 (gk K) x1 x2 x3 x4 := fun h => by
        rcases h with h | ⟨h, _⟩
        · exact h h1
        · exact h4 h
      have n2 : ¬ gC2 x2 := fun h => h hk
      have n3 : ¬ gC3 (gk K) x2 x3 x4 := fun h => h4 h.1
      refine lv_aload_n hx hb dX11_game_61 rfl (lv_at hl 1 rfl) ?_
      refine zg_10_0 C hs hP ha0 hk0 wf_X11_11 dX11_game_62 ?_
      refine lv_iload_n hx hb dX11_game_65 rfl (lv_at hl 2 rfl) ?_
      refine lv_iload_n hx hb dX11_game_66 rfl (lv_at hl 3 rfl) ?_
      refine va_callr (va_runS (As := [.int x2]) (rest := [.int x1, .ref (zr K a0 0)]) C (c_X11_newGame l D s.heap.size x2) ⟨callB_of 1 C.2.2.2.2 (zGc m_X11_newGame.1.2.1) rfl rfl rfl (C.2.2.2.2 _ m_X11_newGame.1.1) (C.2.2.2.2 _ wm_X11_65) m_X11_newGame.1.2.2 ⟨Nat.le_of_ble_eq_true rfl, Nat.le_of_ble_eq_true rfl⟩, C.2.2.2.2 _ m_X11_newGame.2⟩ ⟨fun a U g mk q => by obtain ⟨q0, q1, qK⟩ := q; exact ⟨q0, q1, va_K.moved (u := U) (U := U.calling g mk a) (Vm.Alike.refl U.vm) qK⟩, fun U hU hW => ⟨rfl, by rw [hU], va_K.moved hW.alike hs.1⟩⟩ rfl rfl hl.1 rfl (lv_room (Nat.le_of_ble_eq_true rfl)) dX11_game_67 ⟨Nat.le_of_ble_eq_true rfl, Nat.le_of_ble_eq_true rfl⟩) hSA (fun q _ h => Or.inr h) (fun q h => Or.inr h) (fun u h t H1 locs1 ht hvm _ hB hz1 hk1 hS1 => ?_)
      obtain ⟨ci, v, hci, hv, hPh, hsz⟩ := hB
      rw [ht] at hPh
      have hh : h ∉ zl K := fun h9 => by have := hlt h h9; omega
      have hPK : va_P D vwCl (zW K (vi, va, vg)) H1 := fun i x hi => by
        have h9 := hP i x hi
        exact h9.kept (hk1 x.1 h9.lt (by have := h9.lt; omega))
      have hv := hv hk.1 (by omega)
      subst hv
      refine W.widen (k := 1) (n := 3) (by omega) (by omega) ?_
      have fin : ∀ (k : Nat), (k = 0 ∨ k = 3 ∨ k = 4 ∨ k = 9) → gPost K a0 s.heap.size x1 v x3 x4 1 (kG K h k (fun _ => 0) v x1.toNatClampNeg) (vP (vi, va, vg) h (fun _ => 0)) := fun k hk9 => kG_post hO hI ha0 hh hsz h22 hgk (by omega) (fun h9 => by omega) h1 (fun _ => ⟨hk.1, by omega⟩) (fun h9 => by omega) (Or.inr (Or.inr (Or.inr ⟨n1, n2, n3, rfl⟩)))
      rcases hci with rfl | rfl | rfl | rfl
      · refine gstore (k := 0) (r := fun _ => 0) (t := v) C hO hs ha0 hk0 h22 hh rfl (hs.2.2.2.2.2 (RX0, RX4) (List.mem_of_getElem? (i := 5) rfl)) hPK hPh ⟨hA1, Or.inr hsz⟩ hS1 h1 (fun K' V' e1 e2 e3 => by rw [zF_0 e1, e3] <;> rfl) dX11_game_70 (fun H3 locs3 hP3 hS3 => ?_)
        refine lv_goto (tgt := 142) hx hb dX11_game_71 (by decide) ?_
        exact ret1 _ _ H3 locs3 ls (fin 0 (by decide)) hP3 (kG_Ar hAr (by decide)) hS3
      · refine gstore (k := 3) (r := fun _ => 0) (t := v) C hO hs ha0 hk0 h22 hh rfl (hs.2.2.2.2.2 (RX3, RX4) (List.mem_of_getElem? (i := 6) rfl)) hPK hPh ⟨hA1, Or.inr hsz⟩ hS1 h1 (fun K' V' e1 e2 e3 => by rw [zF_3 e1, e3] <;> rfl) dX11_game_70 (fun H3 locs3 hP3 hS3 => ?_)
        refine lv_goto (tgt := 142) hx hb dX11_game_71 (by decide) ?_
        exact ret1 _ _ H3 locs3 ls (fin 3 (by decide)) hP3 (kG_Ar hAr (by decide)) hS3
      · refine gstore (k := 4) (r := fun _ => 0) (t := v) C hO hs ha0 hk0 h22 hh rfl (hs.2.2.2.2.2 (RX5, RX4) (List.mem_of_getElem? (i := 3) rfl)) hPK hPh ⟨hA1, Or.inr hsz⟩ hS1 h1 (fun K' V' e1 e2 e3 => by rw [zF_4 e1, e3] <;> rfl) dX11_game_70 (fun H3 locs3 hP3 hS3 => ?_)
        refine lv_goto (tgt := 142) hx hb dX11_game_71 (by decide) ?_
        exact ret1 _ _ H3 locs3 ls (fin 4 (by decide)) hP3 (kG_Ar hAr (by decide)) hS3
      · refine gstore (k := 9) (r := fun _ => 0) (t := v) C hO hs ha0 hk0 h22 hh rfl (hs.2.2.2.2.2 (RX10, RX4) (List.mem_of_getElem? (i := 4) rfl)) hPK hPh ⟨hA1, Or.inr hsz⟩ hS1 h1 (fun K' V' e1 e2 e3 => by rw [zF_9 e1, e3] <;> rfl) dX11_game_70 (fun H3 locs3 hP3 hS3 => ?_)
        refine lv_goto (tgt := 142) hx hb dX11_game_71 (by decide) ?_
        exact ret1 _ _ H3 locs3 ls (fin 9 (by decide)) hP3 (kG_Ar hAr (by decide)) hS3
  have l41 : ∀ (ls : Array Slot), gC1 (gk K) x1 x2 x3 x4 → W p l e (rmc 6 1 3) s m args below meth c s.heap [] 0 0 Q (F0 m 41 ls []) := by
    intro ls h
    refine lv_bipush (v := (-2)) hx hb dX11_game_41 (by decide) ?_
    exact ret0 _ _ _ dX11_game_43 (Or.inl ⟨h, ti_m2⟩) (by rw [ti_m2]; decide)
  have l44 : ∀ (b : Int32) (ls : Array Slot), lv_has ls 9 [(5, .int b), (0, .ref a0), (1, .int x1), (2, .int x2), (3, .int x3), (4, .int x4)] → (0 ≤ x1.toInt ∧ x1.toInt ≤ 5) → ¬ gC1 (gk K) x1 x2 x3 x4 → ((b = 1 ∧ x2.toInt = 4 ∧ (∃ q3, gA K x3 (some q3)) ∧ ∃ q4, gA K x4 (some q4)) ∨ (b = 0 ∧ x2.toInt ≠ 4)) → W p l e (rmc 6 1 3) s m args below meth c s.heap [] 0 0 Q (F0 m 44 ls []) := by
    intro b ls hl h1 n1 hbb
    have l53 : gC2 x2 → W p l e (rmc 6 1 3) s m args below meth c s.heap [] 0 0 Q (F0 m 53 ls []) := by
      intro h
      refine lv_bipush (v := (-3)) hx hb dX11_game_53 (by decide) ?_
      exact ret0 _ _ _ dX11_game_55 (Or.inr (Or.inl ⟨n1, h, ti_m3⟩)) (by rw [ti_m3]; decide)
    refine lv_iload_n hx hb dX11_game_44 rfl (lv_at hl 3 rfl) ?_
    refine bz_lt (tgt := 53) hx hb rfl dX11_game_45 (by decide) (fun c1 => l53 (fun h => by omega)) (fun c1 => ?_)
    refine lv_iload_n hx hb dX11_game_48 rfl (lv_at hl 3 rfl) ?_
    refine lv_iconst (v := 4) hx hb dX11_game_49 (by decide) ?_
    refine bi_le (tgt := 56) hx hb rfl ti_4 dX11_game_50 (by decide) (fun c2 => l56 b ls hl h1 ⟨c1, c2⟩ hbb) (fun c2 => l53 (fun h => by omega))
  have l12 : ∀ (b : Int32) (ls : Array Slot), lv_has ls 9 [(5, .int b), (0, .ref a0), (1, .int x1), (2, .int x2), (3, .int x3), (4, .int x4)] → ((b = 1 ∧ x2.toInt = 4) ∨ (b = 0 ∧ x2.toInt ≠ 4)) → W p l e (rmc 6 1 3) s m args below meth c s.heap [] 0 0 Q (F0 m 12 ls []) := by
    intro b ls hl hbb
    refine lv_iload_n hx hb dX11_game_12 rfl (lv_at hl 2 rfl) ?_
    refine zcS (zrSr (As := [.int x1]) (rest := []) C hs hP hS (c_X11_isGame l D K hO vi va vg hI x1) m_X11_isGame wm_X11_57 ⟨Nat.le_of_ble_eq_true rfl, Nat.le_of_ble_eq_true rfl⟩ hl.1 (Nat.le_of_ble_eq_true rfl) dX11_game_13) (fun r y1 => ?_)
    refine bz_eq (tgt := 41) hx hb rfl dX11_game_16 (by decide) (fun c1 => l41 ls (Or.inl (fun h => by have := y1.2.2 c1; omega))) (fun c1 => ?_)
    have h1 := y1.2.1 c1
    refine lv_iload hx hb dX11_game_19 (lv_at hl 0 rfl) ?_
    rcases hbb with ⟨rfl, h4⟩ | ⟨rfl, h4⟩
    · refine bz_eq (tgt := 44) hx hb ti_1 dX11_game_21 (by decide) (fun c1 => absurd c1 (by decide)) (fun c1 => ?_)
      refine lv_aload_n hx hb dX11_game_24 rfl (lv_at hl 1 rfl) ?_
      refine lv_iload_n hx hb dX11_game_25 rfl (lv_at hl 4 rfl) ?_
      refine zcSq (zrVr (As := [.int x3]) (b := a0) (rest := []) C hs hP hS (c_X11_gameAt l D K hO vi va vg hI a0 ha0 hk0 x3) m_X11_gameAt wm_X11_61 (zrecv hs hP ha0 (zF_10 hk0) rfl) ⟨Nat.le_of_ble_eq_true rfl, Nat.le_of_ble_eq_true rfl⟩ hl.1 (Nat.le_of_ble_eq_true rfl) dX11_game_26) (fun y3 => ?_) (fun q3 y3 => ?_)
      · refine lv_ifnullN (tgt := 41) hx hb dX11_game_29 (by decide) ?_
        exact l41 ls (Or.inr ⟨h4, Or.inl (gA.none y3)⟩)
      · refine lv_ifnull hx hb dX11_game_29 ?_
        refine lv_aload_n hx hb dX11_game_32 rfl (lv_at hl 1 rfl) ?_
        refine lv_iload hx hb dX11_game_33 (lv_at hl 5 rfl) ?_
        refine zcSq (zrVr (As := [.int x4]) (b := a0) (rest := []) C hs hP hS (c_X11_gameAt l D K hO vi va vg hI a0 ha0 hk0 x4) m_X11_gameAt wm_X11_61 (zrecv hs hP ha0 (zF_10 hk0) rfl) ⟨Nat.le_of_ble_eq_true rfl, Nat.le_of_ble_eq_true rfl⟩ hl.1 (Nat.le_of_ble_eq_true rfl) dX11_game_35) (fun y4 => ?_) (fun q4 y4 => ?_)
        · refine lv_ifnonnullN hx hb dX11_game_38 ?_
          exact l41 ls (Or.inr ⟨h4, Or.inr (gA.none y4)⟩)
        · refine lv_ifnonnull (tgt := 44) hx hb dX11_game_38 (by decide) ?_
          refine l44 1 ls hl h1 (fun h => ?_) (Or.inl ⟨rfl, h4, ⟨q3, y3⟩, ⟨q4, y4⟩⟩)
          rcases h with h | ⟨_, h | h⟩
          · exact h h1
          · exact h (gA.some hgk y3).1
          · exact h (gA.some hgk y4).1
    · refine bz_eq (tgt := 44) hx hb ti_0 dX11_game_21 (by decide) (fun c1 => ?_) (fun c1 => absurd rfl c1)
      refine l44 0 ls hl h1 (fun h => ?_) (Or.inr ⟨rfl, h4⟩)
      rcases h with h | ⟨h, _⟩
      · exact h h1
      · exact h4 h
  refine lv_iload_n hx hb dX11_game_0 rfl (lv_at hl 2 rfl) ?_
  refine lv_iconst (v := 4) hx hb dX11_game_1 (by decide) ?_
  refine bi_ne (tgt := 9) hx hb rfl ti_4 dX11_game_2 (by decide) (fun c1 => ?_) (fun c1 => ?_)
  · refine lv_iconst (v := 0) hx hb dX11_game_9 (by decide) ?_
    refine lv_istore (lv' := [(5, .int 0), (0, .ref a0), (1, .int x1), (2, .int x2), (3, .int x3), (4, .int x4)]) hx hb dX11_game_10 hl (by decide) rfl (fun ls hl => ?_)
    exact l12 0 ls hl (Or.inr ⟨rfl, c1⟩)
  · refine lv_iconst (v := 1) hx hb dX11_game_5 (by decide) ?_
    refine lv_goto (tgt := 10) hx hb dX11_game_6 (by decide) ?_
    refine lv_istore (lv' := [(5, .int 1), (0, .ref a0), (1, .int x1), (2, .int x2), (3, .int x3), (4, .int x4)]) hx hb dX11_game_10 hl (by decide) rfl (fun ls hl => ?_)
    exact l12 1 ls hl (Or.inl ⟨rfl, c1⟩)
