/-! games: they come to the pool one by one -/
def gP (D : va_G) (h0 : Nat) (e : va_E) (U : State) : Prop := va_P D vwCl [(h0, e)] U.heap ∧ va_K D vwCl [] U
theorem gP.blind {D : va_G} {h0 : Nat} {e : va_E} {av : List Value} : FrameBlind (va_Pc av (gP D h0 e)) := by
  intro a U g mk ⟨h0, hP, hK⟩
  exact ⟨h0, hP, va_K.moved (u := U) (U := U.calling g mk a) (Vm.Alike.refl U.vm) hK⟩
abbrev gQ (D : va_G) (h0 : Nat) (e : va_E) : Array Value → State → Outcome → State → Prop := va_Qv (fun _ : Unit => True) (fun _ t => va_P D vwCl [(h0, e)] t.heap) (fun q => q = h0)
theorem one_D {A : Nat → Prop} {h0 : Nat} {e : va_E} (h : A h0) : va_D A [(h0, e)] := ⟨fun i j p q hi hj _ => by
    have h1 : i < 1 := (List.getElem?_eq_some_iff.mp hi).1
    have h2 : j < 1 := (List.getElem?_eq_some_iff.mp hj).1
    omega, fun i q hq => by
    have h1 : i < 1 := (List.getElem?_eq_some_iff.mp hq).1
    rw [show i = 0 by omega] at hq
    cases hq
    exact h⟩
theorem gin {l : Launch} {y : MethodName} {cc : ByteArray} {maxL d h0 : Nat} {e0 : va_E} {Qc : Array Value → State → Outcome → State → Prop} {av : List Value} {D : va_G} (hy : plainName y.cls = true) (hn : (lg_sl av).length ≤ maxL) (body : ∀ (p : Program) (e : Env) (s : State) (m : MethodId) (args : Array Value) (below : List Frame) (meth : Method) (c : Code) (ls : Array Slot), CallFix p m c cc maxL s args zw y.cls → meth.sig.returnType = none → meth.locks = false → meth.name = y.name → va_K D vwCl [] s → va_P D vwCl [(h0, e0)] s.heap → va_D (fun q => q = h0) [(h0, e0)] → va_S (fun q => q = h0) s.heap s.heap [] → lv_has ls maxL (lv_args 0 av) → W p l e (rmd d) s m args below meth c s.heap [] 0 0 (MQ below Qc args s 0 0 (fun q => q = h0)) (F0 m 0 ls [])) : Met l y (zc y cc maxL none) (rmd d) (va_Pc av (gP D h0 e0)) Qc 0 0 (fun q => q = h0) := by
  refine Met.ofW (cc := cc) (maxL := maxL) (ret := none) hy rfl ?_
  intro p e s m args below meth c s₁ B hml hv
  obtain ⟨rfl, hP, hK⟩ := hv
  have hts := atoms_spec (ws := zc y cc maxL none) B.pre
  have hown : s.vm.findClass y.cls = some m.cls := findClass_of_methodNamed B.named
  have hl := lv_entry av (n := maxL) hn
  rw [lg_entry_eq]
  exact body p e s m _ below meth c _ ⟨B.exec, B.bytes, hml, hown, fun w hw => hts w (List.mem_cons_of_mem _ hw)⟩ B.returns B.notSynchronized (name_of_methodNamed B.named B.method).1 hK hP (one_D rfl) va_S.rf hl
section GC
variable {p : Program} {l : Launch} {e : Env} {R : Room} {s : State} {m : MethodId} {args : Array Value} {below : List Frame} {meth : Method} {c : Code} {H : Heap} {locs : List Loc} {cells slots : Nat} {Q : State → Prop}
variable {cc : ByteArray} {pc : Nat} {ls : Array Slot} {rest : List Value} {D : va_G} {K : zK} {V : zV} {h0 nL index maxL d b : Nat} {own : String} {A : Nat → Prop} {e0 e1 : va_E} {y : MethodName} {bytes : ByteArray} {As : List Value} {ret : Option FieldType} {Qc : Array Value → State → Outcome → State → Prop} {free : Addr → Prop}
theorem gcall (C : CallFix p m c cc nL s args zw own) (hM : Met l y (zc y bytes maxL none) (rmd d) (va_Pc (.ref h0 :: As) (gP D h0 e0)) (gQ D h0 e1) 0 0 (fun q => q = h0)) (hm : zmC y bytes maxL As.length) (hl : (.methodLink own index y : Cond) ∈ zw) (hd : d + 1 ≤ R.frames ∧ 8 + (maxL + 11) + 64 * d ≤ R.locals) (hf : cells + 0 ≤ R.cells ∧ slots + 0 ≤ R.slots) (hsz : ls.size = nL) (hrest : (rest.map fun v => v.category).sum ≤ 8) (hdg : decode cc pc = .ok (.invokespecial index, 3)) (hP : va_P D vwCl [(h0, e0)] H) (hS : va_S A s.heap H locs) (hA : A h0) (hK : va_K D vwCl [] s) (kk : ∀ (H1 : Heap) (locs1 : List Loc), va_P D vwCl [(h0, e1)] H1 → va_S A s.heap H1 locs1 → (∀ x, x < H.size → x ≠ h0 → H1[x]? = H[x]?) → W p l e R s m args below meth c H1 locs1 cells slots Q (F0 m (pc + 3) ls rest)) : W p l e R s m args below meth c H locs cells slots Q (F0 m pc ls (As.reverse ++ .ref h0 :: rest)) :=
  va_callv (va_runI C hM ⟨callB_of As.length C.2.2.2.2 (zGc hm.1.2.1) rfl rfl rfl (C.2.2.2.2 _ hm.1.1) (C.2.2.2.2 _ hl) hm.1.2.2 hd, hm.2.2, C.2.2.2.2 _ hm.2.1⟩ ⟨gP.blind, fun U hU hW => ⟨rfl, by rw [hU]; exact hP, va_K.moved hW.alike hK⟩⟩ rfl rfl hsz rfl (lv_room hrest) hdg hf) hS (fun q _ h => by rw [h]; exact hA) (fun q h => by rw [h]; exact hA) (fun u t H1 locs1 ht _ _ hB _ hk1 hS1 => kk H1 locs1 (by rw [← ht]; exact hB) hS1 hk1)
theorem zrVr (C : CallFix p m c cc nL s args zw own) (hs : zS D K s) (hP : va_P D vwCl (zW K V) H) (hS : va_S (zA K) s.heap H locs) (hM : Met l y (zc y bytes maxL ret) (rmd d) (va_Pc (.ref b :: As) (zB D K V)) Qc 0 0 free) (hm : zmI y bytes maxL ret As.length) (hl : (.methodLink own index y : Cond) ∈ zw) (hr : ∃ cell : Cell, H[b]? = some cell ∧ cell.vm.isStatics = false ∧ s.vm.findClass y.cls = some cell.cls) (hd : d + 1 ≤ R.frames ∧ 8 + (maxL + 11) + 64 * d ≤ R.locals) (hsz : ls.size = nL) (hrest : (rest.map fun v => v.category).sum ≤ 8) (hdg : decode cc pc = .ok (.invokevirtual index, 3)) :
    va_Run p l e R s m args below meth c H locs 0 0 0 0 (F0 m pc ls (As.reverse ++ .ref b :: rest)) rest (Qc (Value.ref b :: As).toArray) free :=
  va_runV (C := y.cls) C hM ⟨callB_of As.length C.2.2.2.2 (zGc hm.1.2.1) rfl rfl rfl (C.2.2.2.2 _ hm.1.1) (C.2.2.2.2 _ hl) hm.1.2.2 hd, C.2.2.2.2 _ hm.2.1, C.2.2.2.2 _ hm.2.2⟩ ⟨zB.blind, hr, fun U hU hW => ⟨rfl, by rw [hU]; exact hP, hs.warm hS hU hW⟩⟩ rfl rfl hsz rfl (lv_room hrest) hdg ⟨Nat.zero_le _, Nat.zero_le _⟩
theorem zrSr (C : CallFix p m c cc nL s args zw own) (hs : zS D K s) (hP : va_P D vwCl (zW K V) H) (hS : va_S (zA K) s.heap H locs) (hM : Met l y (zc y bytes maxL ret) (rmd d) (va_Pc As (zB D K V)) Qc 0 0 free) (hm : zmS y bytes maxL ret As.length) (hl : (.methodLink own index y : Cond) ∈ zw) (hd : d + 1 ≤ R.frames ∧ 8 + (maxL + 11) + 64 * d ≤ R.locals) (hsz : ls.size = nL) (hrest : (rest.map fun v => v.category).sum ≤ 8) (hdg : decode cc pc = .ok (.invokestatic index, 3)) :
    va_Run p l e R s m args below meth c H locs 0 0 0 0 (F0 m pc ls (As.reverse ++ rest)) rest (Qc As.toArray) free :=
  va_runS C hM ⟨callB_of As.length C.2.2.2.2 (zGc hm.1.2.1) rfl rfl rfl (C.2.2.2.2 _ hm.1.1) (C.2.2.2.2 _ hl) hm.1.2.2 hd, C.2.2.2.2 _ hm.2⟩ ⟨zB.blind, fun U hU hW => ⟨rfl, by rw [hU]; exact hP, hs.warm hS hU hW⟩⟩ rfl rfl hsz rfl (lv_room hrest) hdg ⟨Nat.zero_le _, Nat.zero_le _⟩
theorem g_inst (C : CallFix p m c cc nL s args zw own) (hs : zS D K s) (hP : va_P D vwCl (zW K V) H) {q : Nat} (hq : q ∈ zl K) (hg : gam K q) (hN : va_Nc RX7 RX3 s) (hl : (.classLink own index RX3 : Cond) ∈ zw) (hdg : decode cc pc = .ok (.instanceof index, 3)) (k1 : fol K q → W p l e R s m args below meth c H locs cells slots Q (F0 m (pc + 3) ls (.int 1 :: rest))) (k0 : zk K q = 6 → W p l e R s m args below meth c H locs cells slots Q (F0 m (pc + 3) ls (.int 0 :: rest))) : W p l e R s m args below meth c H locs cells slots Q (F0 m pc ls (.ref q :: rest)) := by
  rcases hg with (h | h | h | h) | h
  · exact va_instY (C := RX0) C.1 C.2.1 C.2.2.2.1 (C.2.2.2.2 _ hl) (hs.2.2.2.2.2 (RX0, RX3) (List.mem_of_getElem? (i := 0) rfl)) (zrecv hs hP hq (zF_0 h) rfl) hdg (k1 (Or.inl h))
  · exact va_instS C.1 C.2.1 C.2.2.2.1 (C.2.2.2.2 _ hl) (hs.1.1 3 _ rfl).2 (zrecv hs hP hq (zF_3 h) rfl) hdg (k1 (Or.inr (Or.inl h)))
  · exact va_instY (C := RX5) C.1 C.2.1 C.2.2.2.1 (C.2.2.2.2 _ hl) (hs.2.2.2.2.2 (RX5, RX3) (List.mem_of_getElem? (i := 1) rfl)) (zrecv hs hP hq (zF_4 h) rfl) hdg (k1 (Or.inr (Or.inr (Or.inl h))))
  · exact va_instY (C := RX10) C.1 C.2.1 C.2.2.2.1 (C.2.2.2.2 _ hl) (hs.2.2.2.2.2 (RX10, RX3) (List.mem_of_getElem? (i := 2) rfl)) (zrecv hs hP hq (zF_9 h) rfl) hdg (k1 (Or.inr (Or.inr (Or.inr h))))
  · exact va_instNo (C := RX7) C.1 C.2.1 C.2.2.2.1 (C.2.2.2.2 _ hl) hN (zrecv hs hP hq (zF_6 h) rfl) hdg (k0 h)
theorem g_cast (C : CallFix p m c cc nL s args zw own) (hs : zS D K s) (hP : va_P D vwCl (zW K V) H) {q : Nat} (hq : q ∈ zl K) (hg : fol K q) (hl : (.classLink own index RX3 : Cond) ∈ zw) (hdg : decode cc pc = .ok (.checkcast index, 3)) (k1 : W p l e R s m args below meth c H locs cells slots Q (F0 m (pc + 3) ls (.ref q :: rest))) : W p l e R s m args below meth c H locs cells slots Q (F0 m pc ls (.ref q :: rest)) := by
  rcases hg with h | h | h | h
  · exact va_castY (C := RX0) C.1 C.2.1 C.2.2.2.1 (C.2.2.2.2 _ hl) (hs.2.2.2.2.2 (RX0, RX3) (List.mem_of_getElem? (i := 0) rfl)) (zrecv hs hP hq (zF_0 h) rfl) hdg k1
  · exact va_castS C.1 C.2.1 C.2.2.2.1 (C.2.2.2.2 _ hl) (hs.1.1 3 _ rfl).2 (zrecv hs hP hq (zF_3 h) rfl) hdg k1
  · exact va_castY (C := RX5) C.1 C.2.1 C.2.2.2.1 (C.2.2.2.2 _ hl) (hs.2.2.2.2.2 (RX5, RX3) (List.mem_of_getElem? (i := 1) rfl)) (zrecv hs hP hq (zF_4 h) rfl) hdg k1
  · exact va_castY (C := RX10) C.1 C.2.1 C.2.2.2.1 (C.2.2.2.2 _ hl) (hs.2.2.2.2.2 (RX10, RX3) (List.mem_of_getElem? (i := 2) rfl)) (zrecv hs hP hq (zF_9 h) rfl) hdg k1
end GC
/-- the types of the games, by their places; -1 where there is none -/
def gk (K : zK) (j : Nat) : Int32 := match zg K j with
  | none => -1
  | some q => zt K q
def gok (K : zK) : Prop := ∀ j, j < 6 → ∀ g, zg K j = some g → (fol K g → 0 ≤ (zt K g).toInt ∧ (zt K g).toInt ≤ 3) ∧ (zk K g = 6 → (zt K g).toInt = 4)
def one22 (K : zK) (a0 : Nat) : Prop := ∀ a ∈ zl K, zk K a = 22 → a = zr K a0 0
def gA (K : zK) (x : Int32) (r : Option Nat) : Prop := (∀ q, r = some q → q ∈ zl K ∧ gam K q) ∧ (0 ≤ x.toInt → x.toInt ≤ 5 → r = zg K x.toNatClampNeg) ∧ (x.toInt < 0 ∨ 5 < x.toInt → r = none)
theorem gk_none {K : zK} {j : Nat} (h : zg K j = none) : gk K j = -1 := by unfold gk; rw [h]
theorem gk_some {K : zK} {j q : Nat} (h : zg K j = some q) : gk K j = zt K q := by unfold gk; rw [h]
theorem gA.none {K : zK} {x : Int32} (h : gA K x none) : ¬ isG (gk K) x := fun ⟨h0, h5, hn⟩ => hn (by rw [gk_none (h.2.1 h0 h5).symm]; exact ti_m1)
theorem gA.some {K : zK} {x : Int32} {q : Nat} (hg : gok K) (h : gA K x (some q)) : isG (gk K) x ∧ q ∈ zl K ∧ gam K q ∧ gk K x.toNatClampNeg = zt K q ∧ 0 ≤ (zt K q).toInt ∧ (zt K q).toInt ≤ 4 ∧ (fol K q → (zt K q).toInt ≤ 3) ∧ (zk K q = 6 → (zt K q).toInt = 4) := by
  have hr : 0 ≤ x.toInt ∧ x.toInt ≤ 5 := by
    rcases Classical.em (0 ≤ x.toInt ∧ x.toInt ≤ 5) with h9 | h9
    · exact h9
    · have := h.2.2 (by omega); cases this
  have hz := (h.2.1 hr.1 hr.2).symm
  obtain ⟨h1, h2⟩ := h.1 q rfl
  have hj : x.toNatClampNeg < 6 := by show x.toInt.toNat < 6; omega
  obtain ⟨g1, g2⟩ := hg _ hj q hz
  have e := gk_some hz
  have hb : 0 ≤ (zt K q).toInt ∧ (zt K q).toInt ≤ 4 := by
    rcases h2 with h2 | h2
    · have := g1 h2; omega
    · have := g2 h2; omega
  exact ⟨⟨hr.1, hr.2, by rw [e]; omega⟩, h1, h2, e, hb.1, hb.2, fun f => (g1 f).2, g2⟩
def kG (K : zK) (h k : Nat) (r : Nat → Nat) (t : Int32) (g : Nat) : zK := (va_up (zi K) h 0, zl K ++ [h], va_up (zk K) h k, va_up (zn K) h 0, va_up (zr K) h r, va_up (zt K) h t, va_up (zg K) g (some h))
/-- what game() says, and leaves -/
def gPost (K : zK) (a0 sz : Nat) (x1 x2 x3 x4 : Int32) (r : Int32) (K' : zK) (V' : zV) : Prop := zOk K' ∧ zI K' V' ∧ zLe K K' ∧ (∀ a ∈ zl K', a ∈ zl K ∨ sz ≤ a) ∧ (one22 K' a0 ∧ zr K' a0 0 = zr K a0 0) ∧ gok K' ∧ gaR (gk K) x1 x2 x3 x4 r.toInt ∧ (r.toInt = 1 → ∀ j, j < 6 → gk K' j = upd (gk K) x1.toNatClampNeg x2 j) ∧ (r.toInt ≠ 1 → ∀ j, j < 6 → gk K' j = gk K j)
theorem zF_eq22 {K K' : zK} {V V' : zV} {a : Nat} (h1 : zi K' a = zi K a) (h2 : zk K' a = zk K a) (h3 : zn K' a = zn K a) (h4 : zr K' a = zr K a) (h5 : zt K' a = zt K a) (h6 : V'.1 a = V.1 a) (h7 : V'.2.1 a = V.2.1 a) (h8 : V'.2.2 a = V.2.2 a) (h9 : zk K a ≠ 22) : zF K' V' a = zF K V a := by
  simp only [zF, h1, h2, h3, h4, h5, h6, h7, h8, if_neg h9]
section KG
variable {K : zK} {V : zV} {h k g a : Nat} {r : Nat → Nat} {t : Int32}
theorem kG_at : zi (kG K h k r t g) h = 0 ∧ zk (kG K h k r t g) h = k ∧ zn (kG K h k r t g) h = 0 ∧ zr (kG K h k r t g) h = r ∧ zt (kG K h k r t g) h = t := ⟨va_up_self _ _ _, va_up_self _ _ _, va_up_self _ _ _, va_up_self _ _ _, va_up_self _ _ _⟩
theorem kG_ne (e : a ≠ h) : zi (kG K h k r t g) a = zi K a ∧ zk (kG K h k r t g) a = zk K a ∧ zn (kG K h k r t g) a = zn K a ∧ zr (kG K h k r t g) a = zr K a ∧ zt (kG K h k r t g) a = zt K a := ⟨va_up_ne _ _ e, va_up_ne _ _ e, va_up_ne _ _ e, va_up_ne _ _ e, va_up_ne _ _ e⟩
theorem kG_le (hh : h ∉ zl K) : zLe K (kG K h k r t g) := kP_le (k := k) (n := 0) (cA := 0) (r := r) (t := t) hh
theorem kG_ok (hO : zOk K) (hh : h ∉ zl K) (hk : k = 0 ∨ k = 3 ∨ k = 4 ∨ k = 9 ∨ k = 6) (h6 : k = 6 → ∀ j, (j = 1 ∨ j = 2) → r j ∈ zl K ∧ fol K (r j)) : zOk (kG K h k r t g) := by
  have L := kG_le (k := k) (r := r) (t := t) (g := g) hh
  have N : (zl K ++ [h]).Nodup := by
    rw [List.nodup_append]
    exact ⟨hO.1, List.nodup_cons.mpr ⟨List.not_mem_nil, List.nodup_nil⟩, fun a ha b hb e => hh (by rw [List.mem_singleton.mp hb] at e; exact e ▸ ha)⟩
  have M : ∀ a ∈ zl K ++ [h], a ≠ h → a ∈ zl K := fun a ha e => (List.mem_append.mp ha).resolve_right (fun q => e (List.mem_singleton.mp q))
  refine ⟨N, fun a ha j k' n' hx => ?_, fun a ha => ?_, fun a ha hk' j hj => ?_, fun a ha hk' j hj => ?_, fun a ha hk' j hj => ?_, fun j hj q hq => ?_⟩
  · by_cases c : a = h
    · subst c; rw [kG_at.2.1] at hx
      exact absurd (zX_mem hx) (by rcases hk with rfl | rfl | rfl | rfl | rfl <;> simp [zXL])
    · rw [(kG_ne c).2.1] at hx; rw [(kG_ne c).2.2.2.1]; exact L _ _ _ (hO.2.1 a (M a ha c) j k' n' hx)
  · by_cases c : a = h
    · subst c; rw [kG_at.2.2.1]; decide
    · rw [(kG_ne c).2.2.1]; exact hO.2.2.1 a (M a ha c)
  · by_cases c : a = h
    · subst c; rw [kG_at.2.1] at hk'; omega
    · rw [(kG_ne c).2.1] at hk'; rw [(kG_ne c).2.2.1] at hj; rw [(kG_ne c).2.2.2.1]; exact L.tk (hO.2.2.2.1 a (M a ha c) hk' j hj)
  · by_cases c : a = h
    · subst c; rw [kG_at.2.1] at hk'; omega
    · rw [(kG_ne c).2.1] at hk'; rw [(kG_ne c).2.2.1] at hj; rw [(kG_ne c).2.2.2.1]; exact L.tk (hO.2.2.2.2.1 a (M a ha c) hk' j hj)
  · by_cases c : a = h
    · subst c; rw [kG_at.2.1] at hk'; rw [kG_at.2.2.2.1]; exact L.tf (h6 hk' j hj)
    · rw [(kG_ne c).2.1] at hk'; rw [(kG_ne c).2.2.2.1]; exact L.tf (hO.2.2.2.2.2.1 a (M a ha c) hk' j hj)
  · by_cases c : j = g
    · subst c
      rw [show zg (kG K h k r t j) j = some h from va_up_self _ _ _] at hq
      cases hq
      refine ⟨List.mem_append_right _ List.mem_cons_self, ?_⟩
      unfold gam fol; rw [kG_at.2.1]
      rcases hk with rfl | rfl | rfl | rfl | rfl <;> simp
    · rw [show zg (kG K h k r t g) j = zg K j from va_up_ne _ _ c] at hq
      exact L.tg (hO.2.2.2.2.2.2 j hj q hq)
theorem kG_I (hI : zI K V) (hh : h ∉ zl K) (hk : k = 0 ∨ k = 3 ∨ k = 4 ∨ k = 9 ∨ k = 6) : zI (kG K h k r t g) (vP V h (fun _ => 0)) :=
  kP_I (K := K) (k := k) (n := 0) (cA := 0) (r := r) (t := t) hI hh (by omega) (fun h9 => by omega) (fun h9 => by omega)
theorem kG_post {a0 sz : Nat} {x1 x2 x3 x4 : Int32} (hO : zOk K) (hI : zI K V) (ha0 : a0 ∈ zl K) (hh : h ∉ zl K) (hsz : sz ≤ h) (h22 : one22 K a0) (hgk : gok K) (hk : k = 0 ∨ k = 3 ∨ k = 4 ∨ k = 9 ∨ k = 6) (h6 : k = 6 → ∀ j, (j = 1 ∨ j = 2) → r j ∈ zl K ∧ fol K (r j)) (h1 : 0 ≤ x1.toInt ∧ x1.toInt ≤ 5) (ht : k ≠ 6 → 0 ≤ x2.toInt ∧ x2.toInt ≤ 3) (ht6 : k = 6 → x2.toInt = 4) (hR : gaR (gk K) x1 x2 x3 x4 1) : gPost K a0 sz x1 x2 x3 x4 1 (kG K h k r x2 x1.toNatClampNeg) (vP V h (fun _ => 0)) := by
  have M : ∀ a ∈ zl K ++ [h], a ≠ h → a ∈ zl K := fun a ha e => (List.mem_append.mp ha).resolve_right (fun q => e (List.mem_singleton.mp q))
  have e0 : a0 ≠ h := fun e => hh (e ▸ ha0)
  have er : zr (kG K h k r x2 x1.toNatClampNeg) a0 0 = zr K a0 0 := by rw [(kG_ne e0).2.2.2.1]
  refine ⟨kG_ok hO hh hk h6, kG_I hI hh hk, kG_le hh, fun a ha => ?_, ⟨fun a ha h9 => ?_, er⟩, fun j hj q hq => ?_, by rw [ti_1]; exact hR, fun _ j hj => ?_, fun h9 => absurd ti_1 h9⟩
  · by_cases c : a = h
    · subst c; exact Or.inr hsz
    · exact Or.inl (M a ha c)
  · by_cases c : a = h
    · subst c; rw [kG_at.2.1] at h9; omega
    · rw [(kG_ne c).2.1] at h9; rw [er]; exact h22 a (M a ha c) h9
  · by_cases c : j = x1.toNatClampNeg
    · subst c
      rw [show zg (kG K h k r x2 x1.toNatClampNeg) x1.toNatClampNeg = some h from va_up_self _ _ _] at hq
      cases hq
      unfold fol
      rw [kG_at.2.1, kG_at.2.2.2.2]
      exact ⟨fun f => ht (by omega), fun f => ht6 f⟩
    · rw [show zg (kG K h k r x2 x1.toNatClampNeg) j = zg K j from va_up_ne _ _ c] at hq
      have hm := (hO.2.2.2.2.2.2 j hj q hq).1
      have c2 : q ≠ h := fun e => hh (e ▸ hm)
      unfold fol
      rw [(kG_ne c2).2.1, (kG_ne c2).2.2.2.2]
      exact hgk j hj q hq
  · by_cases c : j = x1.toNatClampNeg
    · subst c
      rw [pk_us, gk_some (show zg (kG K h k r x2 x1.toNatClampNeg) x1.toNatClampNeg = some h from va_up_self _ _ _), kG_at.2.2.2.2]
    · rw [pk_un c]
      have e9 : zg (kG K h k r x2 x1.toNatClampNeg) j = zg K j := va_up_ne _ _ c
      cases hq : zg K j with
      | none => rw [gk_none (e9.trans hq), gk_none hq]
      | some q =>
        have hm := (hO.2.2.2.2.2.2 j hj q hq).1
        have c2 : q ≠ h := fun e => hh (e ▸ hm)
        rw [gk_some (e9.trans hq), gk_some hq, (kG_ne c2).2.2.2.2]
end KG
section GS
variable {p : Program} {l : Launch} {e : Env} {R : Room} {s : State} {m : MethodId} {args : Array Value} {below : List Frame} {meth : Method} {c : Code} {H : Heap} {locs : List Loc} {cells slots : Nat} {Q : State → Prop}
variable {cc : ByteArray} {pc : Nat} {ls : Array Slot} {rest : List Value} {D : va_G} {K : zK} {V : zV} {h k a0 nL : Nat} {own : String} {A : Nat → Prop}
theorem gstore (C : CallFix p m c cc nL s args zw own) (hO : zOk K) (hs : zS D K s) (ha0 : a0 ∈ zl K) (hk0 : zk K a0 = 10) (h22 : one22 K a0) (hh : h ∉ zl K) {fs : List Value} {rc : vw_C} (hc : vwCl[k]? = some rc) (hca : va_Nw (.castable rc.1 RX4) s) (hP : va_P D vwCl (zW K V) H) (hPh : va_P D vwCl [(h, .inr (k, fs))] H) (hA : (∀ a ∈ zl K, A a) ∧ A h) (hS : va_S A s.heap H locs) {i : Int32} (hin : 0 ≤ i.toInt ∧ i.toInt ≤ 5) {r : Nat → Nat} {t : Int32} (hF : ∀ (K' : zK) (V' : zV), zk K' h = k → zr K' h = r → zt K' h = t → zF K' V' h = .inr (k, fs)) (hdg : decode cc pc = .ok (.aastore, 1)) (kk : ∀ (H1 : Heap) (locs1 : List Loc), va_P D vwCl (zW (kG K h k r t i.toNatClampNeg) (vP V h (fun _ => 0))) H1 → va_S A s.heap H1 locs1 → W p l e R s m args below meth c H1 locs1 cells slots Q (F0 m (pc + 1) ls rest)) : W p l e R s m args below meth c H locs cells slots Q (F0 m pc ls (.ref h :: .int i :: .ref (zr K a0 0) :: rest)) := by
  have hf := hO.r (j := 0) ha0 hk0 (rfl : zX 10 0 = some (22, 6))
  have hn : zn K (zr K a0 0) = 6 := hf.2.2 (by decide)
  obtain ⟨q0, hq0⟩ := zl_at (f := zF K V) hf.1
  have hq22 : (zW K V)[q0]? = some (zr K a0 0, .inl (zi K (zr K a0 0), zn K (zr K a0 0), .inr (.inr (.inr (.inr (zg K)))))) := by rw [← zF_22 (V := V) hf.2.1]; exact hq0
  have hlq : q0 < (zW K V).length := (List.getElem?_eq_some_iff.mp hq0).1
  have hD : va_D A (zW K V ++ [(h, .inr (k, fs))]) := va_D.app (zl_D hO.1 hA.1) (one_D hA.2) (fun i j p q hi hj e => by
    have h1 : j < 1 := (List.getElem?_eq_some_iff.mp hj).1
    rw [show j = 0 by omega] at hj
    cases hj
    exact hh (by have h9 := pl_mem hi; rw [show p.1 = h from e] at h9; exact h9))
  refine va_astqO (E := RX4) (r := rc) C.1 C.2.1 (hs.arr hf.1 hf.2.1 rfl) (hP.app hPh) hD hS q0 0 (zW K V).length k (ap_l hq22) rfl hca (ap_r (k := 0) rfl) hc (by rw [hn]; exact vp_in_iff.mpr ⟨hin.1, by omega⟩) hdg (fun H1 locs1 hP1 _ hS1 => ?_)
  refine kk H1 locs1 (fun j q hq => ?_) hS1
  have hq2 : q.1 ∈ zl K ++ [h] ∧ q = (q.1, zF (kG K h k r t i.toNatClampNeg) (vP V h (fun _ => 0)) q.1) := by
    have h9 := pl_mem hq
    refine ⟨h9, ?_⟩
    simp only [va_pl, List.getElem?_map] at hq
    cases hx : (zl (kG K h k r t i.toNatClampNeg))[j]? with
    | none => rw [hx] at hq; cases hq
    | some x => rw [hx] at hq; cases hq; rfl
  obtain ⟨hm, he⟩ := hq2
  rw [he]
  by_cases c1 : q.1 = h
  · rw [c1, hF _ _ kG_at.2.1 kG_at.2.2.2.1 kG_at.2.2.2.2]
    refine hP1 (zW K V).length _ ?_
    rw [List.getElem?_set_ne (Nat.ne_of_lt hlq)]
    exact ap_r (k := 0) rfl
  · have hmK : q.1 ∈ zl K := (List.mem_append.mp hm).resolve_right (fun q => c1 (List.mem_singleton.mp q))
    by_cases c2 : q.1 = zr K a0 0
    · rw [c2] at c1 ⊢
      rw [zF_22 (by rw [(kG_ne c1).2.1]; exact hf.2.1), (kG_ne c1).1, (kG_ne c1).2.2.1]
      refine hP1 q0 _ ?_
      rw [List.getElem?_set_self (by rw [List.length_append]; exact Nat.lt_of_lt_of_le hlq (Nat.le_add_right _ _))]
      rfl
    · rw [zF_eq22 (kG_ne c1).1 (kG_ne c1).2.1 (kG_ne c1).2.2.1 (kG_ne c1).2.2.2.1 (kG_ne c1).2.2.2.2 (vP_ne c1).1 rfl (vP_ne c1).2 (fun h9 => c2 (h22 _ hmK h9))]
      obtain ⟨i2, hi2⟩ := zl_at (f := zF K V) hmK
      refine hP1 i2 _ ?_
      rw [List.getElem?_set_ne (fun e9 => c2 (by rw [e9] at hq0; rw [hi2] at hq0; exact congrArg Prod.fst (Option.some.inj hq0)))]
      exact ap_l hi2
end GS
