theorem zI_g81 {K : zK} {vi va : Nat → Nat → Int32} {vg : Nat → Nat → Option Nat} (h : zI K (vi, va, vg)) {a : Nat} (hk : zk K a = 8) {r : Option Nat} (hr : ∀ g, r = some g → g ∈ zl K ∧ gam K g) : zI K (vi, va, u2 vg a 1 r) := by
  refine ⟨h.1, h.2.1, h.2.2.1, fun b hb hb8 g hg => ?_, fun b hb hb2 g hg => ?_, fun b hb hb2 g hg => ?_⟩
  · dsimp only at hg
    by_cases e : b = a
    · subst e; rw [u2_at] at hg; exact hr g hg
    · rw [u2_ne e] at hg; exact h.2.2.2.1 b hb hb8 g hg
  · dsimp only at hg
    rw [u2_nj (by decide)] at hg; exact h.2.2.2.2.1 b hb hb2 g hg
  · dsimp only at hg ⊢
    rw [u2_nj (by decide)] at hg ⊢; exact h.2.2.2.2.2 b hb hb2 g hg
theorem zI_g27 {K : zK} {vi va : Nat → Nat → Int32} {vg : Nat → Nat → Option Nat} (h : zI K (vi, va, vg)) {a t : Nat} (hk : zk K a = 2) (ht : t ∈ zl K ∧ zk K t = 8) : zI K (vi, va, u2 vg a 7 (some t)) := by
  refine ⟨h.1, h.2.1, h.2.2.1, fun b hb hb8 g hg => ?_, fun b hb hb2 g hg => ?_, fun b hb hb2 g hg => ?_⟩
  · dsimp only at hg
    rw [u2_nj (by decide)] at hg; exact h.2.2.2.1 b hb hb8 g hg
  · dsimp only at hg
    by_cases e : b = a
    · subst e; rw [u2_at] at hg; cases hg; exact ht
    · rw [u2_ne e] at hg; exact h.2.2.2.2.1 b hb hb2 g hg
  · dsimp only at hg ⊢
    rw [u2_nj (by decide)] at hg
    obtain ⟨g1, g2, g3⟩ := h.2.2.2.2.2 b hb hb2 g hg
    refine ⟨g1, g2, ?_⟩
    by_cases e : b = a
    · subst e; exact ⟨t, u2_at⟩
    · rw [u2_ne e]; exact g3
theorem zI_g28 {K : zK} {vi va : Nat → Nat → Int32} {vg : Nat → Nat → Option Nat} (h : zI K (vi, va, vg)) {a t : Nat} (hk : zk K a = 2) (ht : vg a 7 = some t) {r : Option Nat} (hr : ∀ g, r = some g → g ∈ zl K ∧ fol K g) : zI K (vi, va, u2 vg a 8 r) := by
  refine ⟨h.1, h.2.1, h.2.2.1, fun b hb hb8 g hg => ?_, fun b hb hb2 g hg => ?_, fun b hb hb2 g hg => ?_⟩
  · dsimp only at hg
    rw [u2_nj (by decide)] at hg; exact h.2.2.2.1 b hb hb8 g hg
  · dsimp only at hg
    rw [u2_nj (by decide)] at hg; exact h.2.2.2.2.1 b hb hb2 g hg
  · dsimp only at hg ⊢
    rw [u2_nj (by decide)]
    by_cases e : b = a
    · subst e; rw [u2_at] at hg; exact ⟨(hr g hg).1, (hr g hg).2, t, ht⟩
    · rw [u2_ne e] at hg; exact h.2.2.2.2.2 b hb hb2 g hg
section ZV
variable {p : Program} {l : Launch} {e : Env} {R : Room} {s : State} {m : MethodId} {args : Array Value} {below : List Frame} {meth : Method} {c : Code} {H : Heap} {locs : List Loc} {Q : State → Prop}
variable {cc : ByteArray} {pc : Nat} {ls : Array Slot} {rest : List Value} {D : va_G} {K : zK} {V : zV} {vi va : Nat → Nat → Int32} {vg : Nat → Nat → Option Nat} {a nL : Nat} {own : String}
theorem zld_22n (C : CallFix p m c cc nL s args zw own) (hs : zS D K s) (hP : va_P D vwCl (zW K (vi, va, vg)) H) (ha : a ∈ zl K) (h : zk K a = 22) {i : Int32} (hin : vp_in i (zn K a)) (hv : zg K i.toNatClampNeg = none) (hdg : decode cc pc = .ok (.aaload, 1)) (kk : W p l e R s m args below meth c H locs 0 0 Q (F0 m (pc + 1) ls (.null :: rest))) : W p l e R s m args below meth c H locs 0 0 Q (F0 m pc ls (.int i :: .ref a :: rest)) := zld_22 C hs hP ha h hin hdg (by rw [hv]; exact kk)
theorem zld_22s (C : CallFix p m c cc nL s args zw own) (hs : zS D K s) (hP : va_P D vwCl (zW K (vi, va, vg)) H) (ha : a ∈ zl K) (h : zk K a = 22) {i : Int32} (hin : vp_in i (zn K a)) {q : Nat} (hv : zg K i.toNatClampNeg = some q) (hdg : decode cc pc = .ok (.aaload, 1)) (kk : W p l e R s m args below meth c H locs 0 0 Q (F0 m (pc + 1) ls (.ref q :: rest))) : W p l e R s m args below meth c H locs 0 0 Q (F0 m pc ls (.int i :: .ref a :: rest)) := zld_22 C hs hP ha h hin hdg (by rw [hv]; exact kk)
theorem kgn_8_1 (C : CallFix p m c cc nL s args zw own) (hO : zOk K) (hs : zS D K s) (hP : va_P D vwCl (zW K (vi, va, vg)) H) (hS : va_S (zA K) s.heap H locs) (ha : a ∈ zl K) (h : zk K a = 8) {index : Nat} (hl : (.fieldLink own index "CardTables$Table" "game" "LCardTables$Game;" : Cond) ∈ zw) (hI : zI K (vi, va, vg))  (hr : ∀ g, none = some g → g ∈ zl K ∧ gam K g) (hdg : decode cc pc = .ok (.putfield index, 3)) (kk : ∀ (vg : Nat → Nat → Option Nat) (H1 : Heap) (locs1 : List Loc), zI K (vi, va, vg) → va_P D vwCl (zW K (vi, va, vg)) H1 → va_S (zA K) s.heap H1 locs1 → W p l e R s m args below meth c H1 locs1 0 0 Q (F0 m (pc + 3) ls rest)) : W p l e R s m args below meth c H locs 0 0 Q (F0 m pc ls (.null :: .ref a :: rest)) := zp_8_1 (r := none) C hO hs hP hS ha h hl hdg (fun H1 locs1 h3 h4 => kk _ H1 locs1 (zI_g81 hI h hr) h3 h4)
theorem kgs_8_1 (C : CallFix p m c cc nL s args zw own) (hO : zOk K) (hs : zS D K s) (hP : va_P D vwCl (zW K (vi, va, vg)) H) (hS : va_S (zA K) s.heap H locs) (ha : a ∈ zl K) (h : zk K a = 8) {index : Nat} (hl : (.fieldLink own index "CardTables$Table" "game" "LCardTables$Game;" : Cond) ∈ zw) (hI : zI K (vi, va, vg)) {q : Nat} (hr : ∀ g, some q = some g → g ∈ zl K ∧ gam K g) (hdg : decode cc pc = .ok (.putfield index, 3)) (kk : ∀ (vg : Nat → Nat → Option Nat) (H1 : Heap) (locs1 : List Loc), zI K (vi, va, vg) → va_P D vwCl (zW K (vi, va, vg)) H1 → va_S (zA K) s.heap H1 locs1 → W p l e R s m args below meth c H1 locs1 0 0 Q (F0 m (pc + 3) ls rest)) : W p l e R s m args below meth c H locs 0 0 Q (F0 m pc ls (.ref q :: .ref a :: rest)) := zp_8_1 (r := (some q)) C hO hs hP hS ha h hl hdg (fun H1 locs1 h3 h4 => kk _ H1 locs1 (zI_g81 hI h hr) h3 h4)
theorem kg_2_7 (C : CallFix p m c cc nL s args zw own) (hO : zOk K) (hs : zS D K s) (hP : va_P D vwCl (zW K (vi, va, vg)) H) (hS : va_S (zA K) s.heap H locs) (ha : a ∈ zl K) (h : zk K a = 2) {index : Nat} (hl : (.fieldLink own index "CardTables$Ends" "table" "LCardTables$Table;" : Cond) ∈ zw) (hI : zI K (vi, va, vg)) {t : Nat} (ht : t ∈ zl K ∧ zk K t = 8) (hdg : decode cc pc = .ok (.putfield index, 3)) (kk : ∀ (vg : Nat → Nat → Option Nat) (H1 : Heap) (locs1 : List Loc), vg a 7 = some t → zI K (vi, va, vg) → va_P D vwCl (zW K (vi, va, vg)) H1 → va_S (zA K) s.heap H1 locs1 → W p l e R s m args below meth c H1 locs1 0 0 Q (F0 m (pc + 3) ls rest)) : W p l e R s m args below meth c H locs 0 0 Q (F0 m pc ls (.ref t :: .ref a :: rest)) := zp_2_7 (r := some t) C hO hs hP hS ha h hl hdg (fun H1 locs1 h3 h4 => kk _ H1 locs1 u2_at (zI_g27 hI h ht) h3 h4)
theorem kgn_2_8 (C : CallFix p m c cc nL s args zw own) (hO : zOk K) (hs : zS D K s) (hP : va_P D vwCl (zW K (vi, va, vg)) H) (hS : va_S (zA K) s.heap H locs) (ha : a ∈ zl K) (h : zk K a = 2) {index : Nat} (hl : (.fieldLink own index "CardTables$Ends" "game" "LCardTables$Follow;" : Cond) ∈ zw) (hI : zI K (vi, va, vg))  {t : Nat} (ht : vg a 7 = some t) (hr : ∀ g, none = some g → g ∈ zl K ∧ fol K g) (hdg : decode cc pc = .ok (.putfield index, 3)) (kk : ∀ (vg : Nat → Nat → Option Nat) (H1 : Heap) (locs1 : List Loc), zI K (vi, va, vg) → va_P D vwCl (zW K (vi, va, vg)) H1 → va_S (zA K) s.heap H1 locs1 → W p l e R s m args below meth c H1 locs1 0 0 Q (F0 m (pc + 3) ls rest)) : W p l e R s m args below meth c H locs 0 0 Q (F0 m pc ls (.null :: .ref a :: rest)) := zp_2_8 (r := none) C hO hs hP hS ha h hl hdg (fun H1 locs1 h3 h4 => kk _ H1 locs1 (zI_g28 hI h ht hr) h3 h4)
theorem kgs_2_8 (C : CallFix p m c cc nL s args zw own) (hO : zOk K) (hs : zS D K s) (hP : va_P D vwCl (zW K (vi, va, vg)) H) (hS : va_S (zA K) s.heap H locs) (ha : a ∈ zl K) (h : zk K a = 2) {index : Nat} (hl : (.fieldLink own index "CardTables$Ends" "game" "LCardTables$Follow;" : Cond) ∈ zw) (hI : zI K (vi, va, vg)) {q : Nat} {t : Nat} (ht : vg a 7 = some t) (hr : ∀ g, some q = some g → g ∈ zl K ∧ fol K g) (hdg : decode cc pc = .ok (.putfield index, 3)) (kk : ∀ (vg : Nat → Nat → Option Nat) (H1 : Heap) (locs1 : List Loc), zI K (vi, va, vg) → va_P D vwCl (zW K (vi, va, vg)) H1 → va_S (zA K) s.heap H1 locs1 → W p l e R s m args below meth c H1 locs1 0 0 Q (F0 m (pc + 3) ls rest)) : W p l e R s m args below meth c H locs 0 0 Q (F0 m pc ls (.ref q :: .ref a :: rest)) := zp_2_8 (r := (some q)) C hO hs hP hS ha h hl hdg (fun H1 locs1 h3 h4 => kk _ H1 locs1 (zI_g28 hI h ht hr) h3 h4)
variable {x y : MethodName} {bytes : ByteArray} {maxL d d' n index : Nat} {ret : Option FieldType} {Qc : Array Value → State → Outcome → State → Prop} {free : Addr → Prop} {b : Addr} {As : List Value} {Cn : String}
theorem zrUA (C : CallFix p m c cc nL s args zw own) (hs : zS D K s) (hP : va_P D vwCl (zW K V) H) (hS : va_S (zA K) s.heap H locs) (hM : Met l y (zc y bytes maxL ret) (rmd d) (va_Pc (.ref b :: As) (zB D K V)) Qc 0 0 free) (hm : zm y bytes maxL ret As.length) (hi : (.instanceMethod y : Cond) ∈ zw) (hl : (.methodLink own index x : Cond) ∈ zw) (hsm : (.sameMethod x.cls x.cls x.name x.desc : Cond) ∈ zw) (hse : (.selects Cn x y : Cond) ∈ zw) (hz : x ∈ nw_D) (hx1 : x.cls ≠ "java/lang/invoke/MethodHandle" ∧ x.cls ≠ "java/lang/invoke/VarHandle") (hxd : y.desc = x.desc) (hr : ∃ cell : Cell, H[b]? = some cell ∧ cell.vm.isStatics = false ∧ s.vm.findClass Cn = some cell.cls) (hd : d + 1 ≤ d' ∧ 8 + (maxL + 11) + 64 * d ≤ 64 * d') (hsz : ls.size = nL) (hrest : (rest.map fun v => v.category).sum ≤ 8) (hdg : decode cc pc = .ok (.invokevirtual index, 3)) :
    va_Run p l e (rmd d') s m args below meth c H locs 0 0 0 0 (F0 m pc ls (As.reverse ++ .ref b :: rest)) rest (Qc (Value.ref b :: As).toArray) free := by
  refine va_runU (C := Cn) (owner := x.cls) C hM (va_cwA As.length C.2.2.2.2 (fun w hw => ?_) rfl rfl rfl (hs.2.2.2.2.1 x hz) ⟨hx1.1, hx1.2, by rw [← hxd]; exact hm.2.2.2.2⟩ hd) ⟨zB.blind, hr, fun U hU hW => ⟨rfl, by rw [hU]; exact hP, hs.warm hS hU hW⟩⟩ rfl rfl hsz rfl (lv_room hrest) hdg ⟨Nat.le_refl _, Nat.le_refl _⟩
  rcases List.mem_append.mp hw with h | h
  · simp only [List.mem_cons, List.not_mem_nil, or_false] at h
    rcases h with rfl | rfl | rfl | rfl | rfl
    · exact zw_good _ hl
    · exact zw_good _ hsm
    · exact zw_good _ hse
    · exact zw_good _ hi
    · exact zw_good _ hm.1
  · exact zGc hm.2.1 w h
theorem zrUO (C : CallFix p m c cc nL s args zw own) (hs : zS D K s) (hP : va_P D vwCl (zW K V) H) (hS : va_S (zA K) s.heap H locs) (hM : Met l y (zc y bytes maxL ret) (rmd d) (va_Pc (.ref b :: As) (zB D K V)) Qc 0 0 free) (hm : zm y bytes maxL ret As.length) (hi : (.instanceMethod y : Cond) ∈ zw) (hl : (.methodLink own index x : Cond) ∈ zw) (hsm : (.sameMethod x.cls x.cls x.name x.desc : Cond) ∈ zw) (hse : (.selects Cn x y : Cond) ∈ zw) {b0 : ByteArray} {m0 : Nat} {r0 : Option FieldType} (h0 : (.code x b0 m0 r0 : Cond) ∈ zw) (hi0 : (.instanceMethod x : Cond) ∈ zw) (hx1 : x.cls ≠ "java/lang/invoke/MethodHandle" ∧ x.cls ≠ "java/lang/invoke/VarHandle") (hxd : y.desc = x.desc) (hr : ∃ cell : Cell, H[b]? = some cell ∧ cell.vm.isStatics = false ∧ s.vm.findClass Cn = some cell.cls) (hd : d + 1 ≤ d' ∧ 8 + (maxL + 11) + 64 * d ≤ 64 * d') (hsz : ls.size = nL) (hrest : (rest.map fun v => v.category).sum ≤ 8) (hdg : decode cc pc = .ok (.invokevirtual index, 3)) :
    va_Run p l e (rmd d') s m args below meth c H locs 0 0 0 0 (F0 m pc ls (As.reverse ++ .ref b :: rest)) rest (Qc (Value.ref b :: As).toArray) free := by
  refine va_runU (C := Cn) (owner := x.cls) C hM (va_cwO As.length C.2.2.2.2 (fun w hw => ?_) rfl rfl rfl h0 ⟨hx1.1, hx1.2, by rw [← hxd]; exact hm.2.2.2.2⟩ hd) ⟨zB.blind, hr, fun U hU hW => ⟨rfl, by rw [hU]; exact hP, hs.warm hS hU hW⟩⟩ rfl rfl hsz rfl (lv_room hrest) hdg ⟨Nat.le_refl _, Nat.le_refl _⟩
  rcases List.mem_append.mp hw with h | h
  · simp only [List.mem_cons, List.not_mem_nil, or_false] at h
    rcases h with rfl | rfl | rfl | rfl | rfl | rfl
    · exact zw_good _ hl
    · exact zw_good _ hsm
    · exact zw_good _ hi0
    · exact zw_good _ hse
    · exact zw_good _ hi
    · exact zw_good _ hm.1
  · exact zGc hm.2.1 w h
theorem zrecv2 (hs : zS D K s) (hP : va_P D vwCl (zW K V) H) (hb : b ∈ zl K) {ci : Nat} {q : vw_C} {fs : List Value} (hf : zF K V b = .inr (ci, fs)) (hc : vwCl[ci]? = some q) : ∃ (cell : Cell) (kB : Class), H[b]? = some cell ∧ cell.vm.isStatics = false ∧ s.vm.classes[cell.cls]? = some kB := by
  obtain ⟨cell, h1, h2, h3⟩ := zrecv hs hP hb hf hc
  obtain ⟨hfc, kB, hkB, -⟩ := (hs.1.1 ci q hc).2
  have e9 := Option.some.inj (hfc.symm.trans h3)
  exact ⟨cell, kB, h1, h2, by rw [← e9]; exact hkB⟩
theorem zrecvF (hs : zS D K s) (hP : va_P D vwCl (zW K V) H) (hb : b ∈ zl K) (h : fol K b) : ∃ (cell : Cell) (kB : Class), H[b]? = some cell ∧ cell.vm.isStatics = false ∧ s.vm.classes[cell.cls]? = some kB := by
  rcases h with h | h | h | h
  · exact zrecv2 hs hP hb (zF_0 h) rfl
  · exact zrecv2 hs hP hb (zF_3 h) rfl
  · exact zrecv2 hs hP hb (zF_4 h) rfl
  · exact zrecv2 hs hP hb (zF_9 h) rfl
/-- super.m(..): the method of the class above, or of one above that -/
theorem zrSU (C : CallFix p m c cc nL s args zw own) (hs : zS D K s) (hP : va_P D vwCl (zW K V) H) (hS : va_S (zA K) s.heap H locs) (hM : Met l y (zc y bytes maxL ret) (rmd d) (va_Pc (.ref b :: As) (zB D K V)) Qc 0 0 free) (hm : zm y bytes maxL ret As.length) (hi : (.instanceMethod y : Cond) ∈ zw) (hl : (.methodLink own index x : Cond) ∈ zw) (hsm : (.sameMethod x.cls y.cls x.name x.desc : Cond) ∈ zw) (hsu : (.superclass own x.cls : Cond) ∈ zw) (hsu2 : x.cls = y.cls ∨ (.superclass x.cls y.cls : Cond) ∈ zw) (hxy : y.name = x.name ∧ y.desc = x.desc) (hno : x.name ≠ "<init>") (hr : ∃ (cell : Cell) (kB : Class), H[b]? = some cell ∧ cell.vm.isStatics = false ∧ s.vm.classes[cell.cls]? = some kB) (hd : d + 1 ≤ d' ∧ 8 + (maxL + 11) + 64 * d ≤ 64 * d') (hsz : ls.size = nL) (hrest : (rest.map fun v => v.category).sum ≤ 8) (hdg : decode cc pc = .ok (.invokespecial index, 3)) :
    va_Run p l e (rmd d') s m args below meth c H locs 0 0 0 0 (F0 m pc ls (As.reverse ++ .ref b :: rest)) rest (Qc (Value.ref b :: As).toArray) free := by
  have hini := C.2.2.2.2 _ hm.1
  have hcode := C.2.2.2.2 _ hm.2.1
  have hws : ∀ w ∈ zc y bytes maxL ret, ∀ (a' : Array Value) (U : State), s.WarmedH U.vm → w.before a' U = true := pay_in C.2.2.2.2 (zGc hm.2.1)
  have hK : Back l (rmd d') p e below s args y 3 8 (PreOf (rmd d') 0 0 (va_Pc (.ref b :: As) (zB D K V))) (PostOf Qc 0 0 free) := back_of (bytes := bytes) (maxL := maxL) (ret := ret) hM zB.blind rfl rfl hd.1 hd.2 hws List.mem_cons_self (fun a' U hW => word_at hW (Or.inl (by first | rfl | simp [Cond.onTables, Cond.keeps, Cond.steady])) hini)
  obtain ⟨hx, hb, hml, ho, hts⟩ := C
  obtain ⟨cellB, kB, hcB, hoB, hkB⟩ := hr
  intro T hT X
  obtain ⟨mk, methM, hnamed, hmethM, hstM, habM⟩ := Cond.instanceMethod_spec (hts _ hi)
  obtain ⟨methM', cM, hmethM', -, -, -, -, -, -, hsigM⟩ := Cond.code_spec hnamed hcode
  cases hmethM.symm.trans hmethM'
  obtain ⟨ps, dk, kp, hps, hdk, hkp, hsuper, -, -, hnid⟩ := Cond.superclass_spec ho (hts _ hsu)
  have hn : s.methodNamed? ⟨y.cls, x.name, x.desc⟩ = some mk := by rw [← hxy.1, ← hxy.2]; exact hnamed
  have hfy := findClass_of_methodNamed hnamed
  have hsub : s.vm.isSubclass ps mk.cls = true := by
    rcases hsu2 with h | h
    · rw [h] at hps
      cases hps.symm.trans hfy
      simp [Vm.isSubclass, Vm.isSubclassAux]
    · obtain ⟨p2, k2, kp2, g1, g2, g3, g4, -⟩ := Cond.superclass_spec hps (hts _ h)
      cases g1.symm.trans hfy
      have hsz2 : ∃ z, s.vm.classes.size = z + 1 := ⟨s.vm.classes.size - 1, by have := (Array.getElem?_eq_some_iff.mp g2).1; omega⟩
      obtain ⟨z, hz⟩ := hsz2
      simp [Vm.isSubclass, Vm.isSubclassAux, hz, g2, g4]
  obtain ⟨vm₁, X₁, hstep₁⟩ := X.invokespecialUp hx ho (hts _ hl) (hts _ hsm) hn hmethM hstM habM hno hdk hnid hps hsuper hsub (a := b) (cell := cellB) (by rw [hT]; exact hcB) (fun z h => by rw [h] at hoB; cases hoB) hkB (g := F0 m pc ls (As.reverse ++ .ref b :: rest)) rfl (argsL := As) (rest := rest) (by
      have h2 := hm.2.2.2.2
      rw [hsigM] at h2
      exact (Option.some.inj h2).symm) rfl (by rw [hb]; exact hdg)
  obtain ⟨v, ⟨U', l2, c2, s2⟩, X', ⟨g', mk2, t, L, e1, e2, hq, h1, hL, h2, h3⟩, hsteps⟩ := hK m meth c ⟨T.setVm vm₁, locs, 0, 0⟩ { F0 m pc ls (As.reverse ++ .ref b :: rest) with stack := rest } (.invokespecial index) mk (Value.ref b :: As).toArray X₁ rfl (hsz.trans hml.symm) (by rw [hb]; exact hdg) (lv_room hrest) (X₁.named hnamed) ⟨Nat.le_refl _, Nat.le_refl _, rfl, by show va_P D vwCl (zW K V) (T.setVm vm₁).heap; exact hT ▸ hP, hs.warm hS hT X₁.warmed⟩
  dsimp only [Pt.U, Pt.locs, Pt.cells, Pt.slots] at X' e1 e2 h1 h2 h3 hsteps
  subst h1; subst h2; subst h3
  exact ⟨v, (T.setVm vm₁).calling g' mk2 (Value.ref b :: As).toArray, t, U', L, hT, X', hL, e1, e2, hq, fun target h => hstep₁ _ (by rw [doInvoke_state]; exact hsteps.trans h)⟩
end ZV
theorem m0_X0_wins : zm yX0_wins cX0_wins 6 (some .int) 3 := ⟨wn_X0, wo_X0_wins, by decide, by decide, by decide +kernel⟩
theorem m0_X5_score : zm yX5_score cX5_score 7 (some .int) 4 := ⟨wn_X5, wo_X5_score, by decide, by decide, by decide +kernel⟩
theorem m0_X0_score : zm yX0_score cX0_score 6 (some .int) 4 := ⟨wn_X0, wo_X0_score, by decide, by decide, by decide +kernel⟩
theorem m0_X0_settle : zm yX0_settle cX0_settle 7 (some .int) 4 := ⟨wn_X0, wo_X0_settle, by decide, by decide, by decide +kernel⟩
theorem m0_X3_player : zm yX3_player cX3_player 1 (some (.object "CardTables$Follow")) 0 := ⟨wn_X3, wo_X3_player, by decide, by decide, by decide +kernel⟩
theorem m0_X7_player : zm yX7_player cX7_player 1 (some (.object "CardTables$Follow")) 0 := ⟨wn_X7, wo_X7_player, by decide, by decide, by decide +kernel⟩
theorem m0_X5_allows : zm yX5_allows cX5_allows 10 (some .int) 5 := ⟨wn_X5, wo_X5_allows, by decide, by decide, by decide +kernel⟩
theorem m0_X10_allows : zm yX10_allows cX10_allows 9 (some .int) 5 := ⟨wn_X10, wo_X10_allows, by decide, by decide, by decide +kernel⟩
theorem m0_X10_wins : zm yX10_wins cX10_wins 5 (some .int) 3 := ⟨wn_X10, wo_X10_wins, by decide, by decide, by decide +kernel⟩
theorem m0_X3_size : zm yX3_size cX3_size 3 (some .int) 2 := ⟨wn_X3, wo_X3_size, by decide, by decide, by decide +kernel⟩
theorem m0_X7_size : zm yX7_size cX7_size 3 (some .int) 2 := ⟨wn_X7, wo_X7_size, by decide, by decide, by decide +kernel⟩
theorem m0_X7_allows : zm yX7_allows cX7_allows 6 (some .int) 5 := ⟨wn_X7, wo_X7_allows, by decide, by decide, by decide +kernel⟩
theorem m0_X7_wins : zm yX7_wins cX7_wins 4 (some .int) 3 := ⟨wn_X7, wo_X7_wins, by decide, by decide, by decide +kernel⟩
theorem m0_X10_score : zm yX10_score cX10_score 7 (some .int) 4 := ⟨wn_X10, wo_X10_score, by decide, by decide, by decide +kernel⟩
theorem m0_X7_score : zm yX7_score cX7_score 5 (some .int) 4 := ⟨wn_X7, wo_X7_score, by decide, by decide, by decide +kernel⟩
theorem m0_X7_settle : zm yX7_settle cX7_settle 5 (some .int) 4 := ⟨wn_X7, wo_X7_settle, by decide, by decide, by decide +kernel⟩
abbrev m0_X3_score := m_X3_score.1
abbrev m0_X3_allows := m_X3_allows.1
abbrev m0_X3_wins := m_X3_wins.1
abbrev m0_X3_settle := m_X3_settle.1
