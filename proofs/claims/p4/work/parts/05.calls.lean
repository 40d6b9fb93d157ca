section ZC
variable {p : Program} {l : Launch} {e : Env} {R : Room} {s : State} {m : MethodId} {args : Array Value} {below : List Frame} {meth : Method} {c : Code} {H : Heap} {locs : List Loc} {Q : State → Prop}
variable {cc : ByteArray} {pc : Nat} {ls : Array Slot} {rest : List Value} {D : va_G} {K : zK} {V : zV} {vi va : Nat → Nat → Int32} {vg : Nat → Nat → Option Nat} {a nL : Nat} {own : String}
variable {y : MethodName} {bytes : ByteArray} {maxL d d' n index : Nat} {ret : Option FieldType} {Qc : Array Value → State → Outcome → State → Prop} {free : Addr → Prop} {b : Addr} {As : List Value}
/-- what a method needs to be called: its words -/
abbrev zm (y : MethodName) (bytes : ByteArray) (maxL : Nat) (ret : Option FieldType) (n : Nat) : Prop := (.initialized y.cls : Cond) ∈ zw ∧ (.code y bytes maxL ret : Cond) ∈ zw ∧ y.cls ≠ "java/lang/invoke/MethodHandle" ∧ y.cls ≠ "java/lang/invoke/VarHandle" ∧ (parseMethodDescriptor y.desc).map (fun d => d.parameters.length) = some n
abbrev zmI (y : MethodName) (bytes : ByteArray) (maxL : Nat) (ret : Option FieldType) (n : Nat) : Prop := zm y bytes maxL ret n ∧ (.instanceMethod y : Cond) ∈ zw ∧ (.selects y.cls y y : Cond) ∈ zw
abbrev zmS (y : MethodName) (bytes : ByteArray) (maxL : Nat) (ret : Option FieldType) (n : Nat) : Prop := zm y bytes maxL ret n ∧ (.static y : Cond) ∈ zw
theorem zGc (h : (.code y bytes maxL ret : Cond) ∈ zw) : GoodIn zw (zc y bytes maxL ret) := fun w hw => by
  rcases List.mem_cons.mp hw with rfl | hw
  · exact zw_good _ h
  · exact zw_good _ hw
theorem zroom {ls : Array Slot} {st : List Value} {g : JFrame} (hg : g = F0 m pc ls st) {rest : List Value} (h : (rest.map fun v => v.category).sum ≤ 8) : 2 * g.monitorRoom + (rest.map fun v => v.category).sum ≤ 8 := by subst hg; exact lv_room h
theorem zrecv (hs : zS D K s) (hP : va_P D vwCl (zW K V) H) (hb : b ∈ zl K) {ci : Nat} {q : vw_C} {fs : List Value} (hf : zF K V b = .inr (ci, fs)) (hc : vwCl[ci]? = some q) : ∃ cell : Cell, H[b]? = some cell ∧ cell.vm.isStatics = false ∧ s.vm.findClass q.1 = some cell.cls := by
  obtain ⟨k, hk⟩ := zl_at (f := zF K V) hb
  rw [hf] at hk
  exact va_recv hs.1 hP hc hk
theorem zrV (C : CallFix p m c cc nL s args zw own) (hs : zS D K s) (hP : va_P D vwCl (zW K V) H) (hS : va_S (zA K) s.heap H locs) (hM : Met l y (zc y bytes maxL ret) (rmd d) (va_Pc (.ref b :: As) (zB D K V)) Qc 0 0 free) (hm : zmI y bytes maxL ret As.length) (hl : (.methodLink own index y : Cond) ∈ zw) (hr : ∃ cell : Cell, H[b]? = some cell ∧ cell.vm.isStatics = false ∧ s.vm.findClass y.cls = some cell.cls) (hd : d + 1 ≤ d' ∧ 8 + (maxL + 11) + 64 * d ≤ 64 * d') (hsz : ls.size = nL) (hrest : (rest.map fun v => v.category).sum ≤ 8) (hdg : decode cc pc = .ok (.invokevirtual index, 3)) :
    va_Run p l e (rmd d') s m args below meth c H locs 0 0 0 0 (F0 m pc ls (As.reverse ++ .ref b :: rest)) rest (Qc (Value.ref b :: As).toArray) free :=
  va_runV (C := y.cls) C hM ⟨callB_of As.length C.2.2.2.2 (zGc hm.1.2.1) rfl rfl rfl (C.2.2.2.2 _ hm.1.1) (C.2.2.2.2 _ hl) hm.1.2.2 hd, C.2.2.2.2 _ hm.2.1, C.2.2.2.2 _ hm.2.2⟩ ⟨zB.blind, hr, fun U hU hW => ⟨rfl, by rw [hU]; exact hP, hs.warm hS hU hW⟩⟩ rfl rfl hsz rfl (lv_room hrest) hdg ⟨Nat.le_refl _, Nat.le_refl _⟩
theorem zrS (C : CallFix p m c cc nL s args zw own) (hs : zS D K s) (hP : va_P D vwCl (zW K V) H) (hS : va_S (zA K) s.heap H locs) (hM : Met l y (zc y bytes maxL ret) (rmd d) (va_Pc As (zB D K V)) Qc 0 0 free) (hm : zmS y bytes maxL ret As.length) (hl : (.methodLink own index y : Cond) ∈ zw) (hd : d + 1 ≤ d' ∧ 8 + (maxL + 11) + 64 * d ≤ 64 * d') (hsz : ls.size = nL) (hrest : (rest.map fun v => v.category).sum ≤ 8) (hdg : decode cc pc = .ok (.invokestatic index, 3)) :
    va_Run p l e (rmd d') s m args below meth c H locs 0 0 0 0 (F0 m pc ls (As.reverse ++ rest)) rest (Qc As.toArray) free :=
  va_runS C hM ⟨callB_of As.length C.2.2.2.2 (zGc hm.1.2.1) rfl rfl rfl (C.2.2.2.2 _ hm.1.1) (C.2.2.2.2 _ hl) hm.1.2.2 hd, C.2.2.2.2 _ hm.2⟩ ⟨zB.blind, fun U hU hW => ⟨rfl, by rw [hU]; exact hP, hs.warm hS hU hW⟩⟩ rfl rfl hsz rfl (lv_room hrest) hdg ⟨Nat.le_refl _, Nat.le_refl _⟩
/-- nest mates' private methods -/
theorem zrSN (C : CallFix p m c cc nL s args zw own) (hs : zS D K s) (hP : va_P D vwCl (zW K V) H) (hS : va_S (zA K) s.heap H locs) (hM : Met l y (zc y bytes maxL ret) (rmd d) (va_Pc As (zB D K V)) Qc 0 0 free) (hm : zmS y bytes maxL ret As.length) {host : String} (hl : (own, index, y, host) ∈ nw_M) (hd : d + 1 ≤ d' ∧ 8 + (maxL + 11) + 64 * d ≤ 64 * d') (hsz : ls.size = nL) (hrest : (rest.map fun v => v.category).sum ≤ 8) (hdg : decode cc pc = .ok (.invokestatic index, 3)) :
    va_Run p l e (rmd d') s m args below meth c H locs 0 0 0 0 (F0 m pc ls (As.reverse ++ rest)) rest (Qc As.toArray) free :=
  va_runSN C hM ⟨va_cnB As.length C.2.2.2.2 (zGc hm.1.2.1) rfl rfl rfl (hs.2.2.2.1 _ hl) (C.2.2.2.2 _ hm.1.1) hm.1.2.2 hd, C.2.2.2.2 _ hm.2, trivial⟩ ⟨zB.blind, fun U hU hW => ⟨rfl, by rw [hU]; exact hP, hs.warm hS hU hW⟩⟩ rfl rfl hsz rfl (lv_room hrest) hdg ⟨Nat.le_refl _, Nat.le_refl _⟩
theorem zrVN (C : CallFix p m c cc nL s args zw own) (hs : zS D K s) (hP : va_P D vwCl (zW K V) H) (hS : va_S (zA K) s.heap H locs) (hM : Met l y (zc y bytes maxL ret) (rmd d) (va_Pc (.ref b :: As) (zB D K V)) Qc 0 0 free) (hm : zmI y bytes maxL ret As.length) {host : String} (hl : (own, index, y, host) ∈ nw_M) (hr : ∃ cell : Cell, H[b]? = some cell ∧ cell.vm.isStatics = false ∧ s.vm.findClass y.cls = some cell.cls) (hd : d + 1 ≤ d' ∧ 8 + (maxL + 11) + 64 * d ≤ 64 * d') (hsz : ls.size = nL) (hrest : (rest.map fun v => v.category).sum ≤ 8) (hdg : decode cc pc = .ok (.invokevirtual index, 3)) :
    va_Run p l e (rmd d') s m args below meth c H locs 0 0 0 0 (F0 m pc ls (As.reverse ++ .ref b :: rest)) rest (Qc (Value.ref b :: As).toArray) free :=
  va_runVN (C := y.cls) C hM ⟨va_cnB As.length C.2.2.2.2 (zGc hm.1.2.1) rfl rfl rfl (hs.2.2.2.1 _ hl) (C.2.2.2.2 _ hm.1.1) hm.1.2.2 hd, C.2.2.2.2 _ hm.2.1, C.2.2.2.2 _ hm.2.2⟩ ⟨zB.blind, hr, fun U hU hW => ⟨rfl, by rw [hU]; exact hP, hs.warm hS hU hW⟩⟩ rfl rfl hsz rfl (lv_room hrest) hdg ⟨Nat.le_refl _, Nat.le_refl _⟩
/-- behind a call that changes nothing -/
theorem zcS {st0 : List Value} {aa : Array Value} {post : Int32 → Prop} (hr : va_Run p l e R s m args below meth c H locs 0 0 0 0 (F0 m pc ls st0) rest (vp_Si post aa) (fun _ => False)) (kk : ∀ r : Int32, post r → W p l e R s m args below meth c H locs 0 0 Q (F0 m (pc + 3) ls (.int r :: rest))) : W p l e R s m args below meth c H locs 0 0 Q (F0 m pc ls st0) := by
  intro T hT X
  obtain ⟨v, st₀, t, T', L, h0, X', hL, e1, e2, ⟨r, hv, hp, hh⟩, st⟩ := hr T hT X
  cases hv
  have hL0 : L = [] := by
    cases L with
    | nil => rfl
    | cons q L => exact (hL q List.mem_cons_self).elim
  subst hL0
  rw [List.append_nil] at X'
  obtain ⟨t2, a1, b1⟩ := kk r hp T' (by rw [e1, hh, h0]) X'
  exact ⟨t2, st t2 a1, b1⟩
theorem zcSq {st0 : List Value} {aa : Array Value} {post : Option Nat → Prop} (hr : va_Run p l e R s m args below meth c H locs 0 0 0 0 (F0 m pc ls st0) rest (va_Sq post aa) (fun _ => False)) (k0 : post none → W p l e R s m args below meth c H locs 0 0 Q (F0 m (pc + 3) ls (.null :: rest))) (k1 : ∀ q : Nat, post (some q) → W p l e R s m args below meth c H locs 0 0 Q (F0 m (pc + 3) ls (.ref q :: rest))) : W p l e R s m args below meth c H locs 0 0 Q (F0 m pc ls st0) := by
  intro T hT X
  obtain ⟨v, st₀, t, T', L, h0, X', hL, e1, e2, ⟨r, hv, hp, hh⟩, st⟩ := hr T hT X
  cases hv
  have hL0 : L = [] := by
    cases L with
    | nil => rfl
    | cons q L => exact (hL q List.mem_cons_self).elim
  subst hL0
  rw [List.append_nil] at X'
  cases r with
  | none =>
    obtain ⟨t2, a1, b1⟩ := k0 hp T' (by rw [e1, hh, h0]) X'
    exact ⟨t2, st t2 a1, b1⟩
  | some q =>
    obtain ⟨t2, a1, b1⟩ := k1 q hp T' (by rw [e1, hh, h0]) X'
    exact ⟨t2, st t2 a1, b1⟩
/-- behind a call that leaves another picture of the pool -/
abbrev zQi (D : va_G) (K : zK) (post : Int32 → zV → Prop) : Array Value → State → Outcome → State → Prop := va_Qi post (fun V' t => va_P D vwCl (zW K V') t.heap) (zA K)
abbrev zQv (D : va_G) (K : zK) (post : zV → Prop) : Array Value → State → Outcome → State → Prop := va_Qv post (fun V' t => va_P D vwCl (zW K V') t.heap) (zA K)
theorem zcI {st0 : List Value} {aa : Array Value} {post : Int32 → zV → Prop} (hr : va_Run p l e R s m args below meth c H locs 0 0 0 0 (F0 m pc ls st0) rest (zQi D K post aa) (zA K)) (hS : va_S (zA K) s.heap H locs) (kk : ∀ (r : Int32) (V : zV) (H : Heap) (locs : List Loc), post r V → va_P D vwCl (zW K V) H → va_S (zA K) s.heap H locs → W p l e R s m args below meth c H locs 0 0 Q (F0 m (pc + 3) ls (.int r :: rest))) : W p l e R s m args below meth c H locs 0 0 Q (F0 m pc ls st0) :=
  va_calli hr hS (fun _ _ h => h) (fun _ h => h) (fun r u t H1 locs1 ht _ hp hB _ _ h3 => kk r u H1 locs1 hp (by rw [← ht]; exact hB) h3)
theorem zcV {st0 : List Value} {aa : Array Value} {post : zV → Prop} (hr : va_Run p l e R s m args below meth c H locs 0 0 0 0 (F0 m pc ls st0) rest (zQv D K post aa) (zA K)) (hS : va_S (zA K) s.heap H locs) (kk : ∀ (V : zV) (H : Heap) (locs : List Loc), post V → va_P D vwCl (zW K V) H → va_S (zA K) s.heap H locs → W p l e R s m args below meth c H locs 0 0 Q (F0 m (pc + 3) ls rest)) : W p l e R s m args below meth c H locs 0 0 Q (F0 m pc ls st0) :=
  va_callv hr hS (fun _ _ h => h) (fun _ h => h) (fun u t H1 locs1 ht _ hp hB _ _ h3 => kk u H1 locs1 hp (by rw [← ht]; exact hB) h3)
end ZC
/-- a method's body: what it begins with -/
abbrev zE (l : Launch) (y : MethodName) (cc : ByteArray) (maxL d : Nat) (av : List Value) (D : va_G) (K : zK) (V : zV) (ret : Option FieldType) (Qc : Array Value → State → Outcome → State → Prop) (free : Addr → Prop) : Prop :=
  ∀ (p : Program) (e : Env) (s : State) (m : MethodId) (args : Array Value) (below : List Frame) (meth : Method) (c : Code) (ls : Array Slot) (Q : State → Prop), Q = MQ below Qc args s 0 0 free → CallFix p m c cc maxL s args zw y.cls → meth.sig.returnType = ret → meth.locks = false → va_P D vwCl (zW K V) s.heap → zS D K s → lv_has ls maxL (lv_args 0 av) → W p l e (rmd d) s m args below meth c s.heap [] 0 0 Q (F0 m 0 ls [])
theorem zin {l : Launch} {y : MethodName} {cc : ByteArray} {maxL d : Nat} {ret : Option FieldType} {Qc : Array Value → State → Outcome → State → Prop} {free : Addr → Prop} {av : List Value} {D : va_G} {K : zK} {V : zV} (hy : plainName y.cls = true) (hn : (lg_sl av).length ≤ maxL) (body : zE l y cc maxL d av D K V ret Qc free) : Met l y (zc y cc maxL ret) (rmd d) (va_Pc av (zB D K V)) Qc 0 0 free := by
  refine Met.ofW (cc := cc) (maxL := maxL) (ret := ret) hy rfl ?_
  intro p e s m args below meth c s₁ B hml hv
  obtain ⟨rfl, hP, hs⟩ := hv
  have hts := atoms_spec (ws := zc y cc maxL ret) B.pre
  have hown : s.vm.findClass y.cls = some m.cls := findClass_of_methodNamed B.named
  have hl := lv_entry av (n := maxL) hn
  rw [lg_entry_eq]
  exact body p e s m _ below meth c _ _ rfl ⟨B.exec, B.bytes, hml, hown, fun w hw => hts w (List.mem_cons_of_mem _ hw)⟩ B.returns B.notSynchronized hP hs hl
section ZR
variable {Q : State → Prop} {post : Int32 → Prop} {posq : Option Nat → Prop} {poi : Int32 → zV → Prop} {pov : zV → Prop} {p : Program} {l : Launch} {e : Env} {R : Room} {s : State} {m : MethodId} {args : Array Value} {below : List Frame} {meth : Method} {c : Code} {H : Heap} {locs : List Loc} {cc : ByteArray} {pc : Nat} {ls : Array Slot} {D : va_G} {K : zK} {V : zV}
/-- answers of methods that change nothing -/
theorem zaS (hQ : Q = MQ below (vp_Si post) args s 0 0 (fun _ => False)) (hx : p.tables.exec = Jvm.exec) (hb : c.code = cc) (hr : meth.sig.returnType = some .int) (hlocks : meth.locks = false) {r : Int32} (hp : post r) (hdg : decode cc pc = .ok (.ireturn, 1)) : W p l e R s m args below meth c s.heap [] 0 0 Q (F0 m pc ls [.int r]) := by
  rw [hQ]; exact W.iret hx hb hr (fun t ht _ => ⟨r, rfl, hp, ht⟩) (fun q h => by cases h) hdg hlocks
theorem zaSz (hQ : Q = MQ below (vp_Si post) args s 0 0 (fun _ => False)) (hx : p.tables.exec = Jvm.exec) (hb : c.code = cc) (hr : meth.sig.returnType = some .boolean) (hlocks : meth.locks = false) {r : Int32} (hz : r = 0 ∨ r = 1) (hp : post r) (hdg : decode cc pc = .ok (.ireturn, 1)) : W p l e R s m args below meth c s.heap [] 0 0 Q (F0 m pc ls [.int r]) := by
  rw [hQ]; exact W.zret hx hb hr (z_bool hz).1 (fun t ht _ => ⟨r, rfl, hp, ht⟩) (fun q h => by cases h) hdg hlocks
theorem zaSn (hQ : Q = MQ below (va_Sq posq) args s 0 0 (fun _ => False)) (hx : p.tables.exec = Jvm.exec) (hb : c.code = cc) {rn : String} (hr : meth.sig.returnType = some (.object rn)) (hlocks : meth.locks = false) (hp : posq none) (hdg : decode cc pc = .ok (.areturn, 1)) : W p l e R s m args below meth c s.heap [] 0 0 Q (F0 m pc ls [.null]) := by
  rw [hQ]; exact W.aret hx hb hr (Or.inl ⟨rn, rfl⟩) (Or.inl rfl) (fun t ht _ => ⟨none, rfl, hp, ht⟩) (fun q h => by cases h) hdg hlocks
theorem zaSr (hQ : Q = MQ below (va_Sq posq) args s 0 0 (fun _ => False)) (hx : p.tables.exec = Jvm.exec) (hb : c.code = cc) {rn : String} (hr : meth.sig.returnType = some (.object rn)) (hlocks : meth.locks = false) {q0 : Nat} (hp : posq (some q0)) (hdg : decode cc pc = .ok (.areturn, 1)) : W p l e R s m args below meth c s.heap [] 0 0 Q (F0 m pc ls [.ref q0]) := by
  rw [hQ]; exact W.aret hx hb hr (Or.inl ⟨rn, rfl⟩) (Or.inr ⟨q0, rfl⟩) (fun t ht _ => ⟨some q0, rfl, hp, ht⟩) (fun q h => by cases h) hdg hlocks
/-- answers of the others -/
theorem zaI (hQ : Q = MQ below (zQi D K poi) args s 0 0 (zA K)) (hx : p.tables.exec = Jvm.exec) (hb : c.code = cc) (hr : meth.sig.returnType = some .int) (hlocks : meth.locks = false) (hP : va_P D vwCl (zW K V) H) (hS : va_S (zA K) s.heap H locs) {r : Int32} (hp : poi r V) (hdg : decode cc pc = .ok (.ireturn, 1)) : W p l e R s m args below meth c H locs 0 0 Q (F0 m pc ls [.int r]) := by
  rw [hQ]; exact W.iret hx hb hr (fun t ht _ => ⟨⟨r, V, rfl, hp, by show va_P D vwCl (zW K V) t.heap; rw [ht]; exact hP⟩, hS.F ht⟩) hS.2.2 hdg hlocks
theorem zaZ (hQ : Q = MQ below (zQi D K poi) args s 0 0 (zA K)) (hx : p.tables.exec = Jvm.exec) (hb : c.code = cc) (hr : meth.sig.returnType = some .boolean) (hlocks : meth.locks = false) (hP : va_P D vwCl (zW K V) H) (hS : va_S (zA K) s.heap H locs) {r : Int32} (hz : r = 0 ∨ r = 1) (hp : poi r V) (hdg : decode cc pc = .ok (.ireturn, 1)) : W p l e R s m args below meth c H locs 0 0 Q (F0 m pc ls [.int r]) := by
  rw [hQ]; exact W.zret hx hb hr (z_bool hz).1 (fun t ht _ => ⟨⟨r, V, rfl, hp, by show va_P D vwCl (zW K V) t.heap; rw [ht]; exact hP⟩, hS.F ht⟩) hS.2.2 hdg hlocks
theorem zaV (hQ : Q = MQ below (zQv D K pov) args s 0 0 (zA K)) (hx : p.tables.exec = Jvm.exec) (hb : c.code = cc) (hr : meth.sig.returnType = none) (hlocks : meth.locks = false) (hP : va_P D vwCl (zW K V) H) (hS : va_S (zA K) s.heap H locs) (hp : pov V) (hdg : decode cc pc = .ok (.return_, 1)) : W p l e R s m args below meth c H locs 0 0 Q (F0 m pc ls []) := by
  rw [hQ]; exact W.vret hx hb hr (fun t ht _ => ⟨⟨V, rfl, hp, by show va_P D vwCl (zW K V) t.heap; rw [ht]; exact hP⟩, hS.F ht⟩) hS.2.2 hdg hlocks
end ZR
theorem m_X6_body : zmI yX6_body cX6_body 3 none 1 := ⟨⟨wn_X6, wo_X6_body, by decide, by decide, by decide +kernel⟩, wi_X6_body, we_X6_X6_body⟩
theorem m_X9_firstOf : zmI yX9_firstOf cX9_firstOf 5 (some .int) 2 := ⟨⟨wn_X9, wo_X9_firstOf, by decide, by decide, by decide +kernel⟩, wi_X9_firstOf, we_X9_X9_firstOf⟩
theorem m_X9_strongestOf : zmI yX9_strongestOf cX9_strongestOf 9 (some .int) 3 := ⟨⟨wn_X9, wo_X9_strongestOf, by decide, by decide, by decide +kernel⟩, wi_X9_strongestOf, we_X9_X9_strongestOf⟩
theorem m_X3_score : zmI yX3_score cX3_score 5 (some .int) 4 := ⟨⟨wn_X3, wo_X3_score, by decide, by decide, by decide +kernel⟩, wi_X3_score, we_X3_X3_score⟩
theorem m_X8_at : zmI yX8_at cX8_at 2 (some .int) 1 := ⟨⟨wn_X8, wo_X8_at, by decide, by decide, by decide +kernel⟩, wi_X8_at, we_X8_X8_at⟩
theorem m_X9_colourOf : zmI yX9_colourOf cX9_colourOf 2 (some .int) 1 := ⟨⟨wn_X9, wo_X9_colourOf, by decide, by decide, by decide +kernel⟩, wi_X9_colourOf, we_X9_X9_colourOf⟩
theorem m_X1_setBid : zmI yX1_setBid cX1_setBid 4 none 3 := ⟨⟨wn_X1, wo_X1_setBid, by decide, by decide, by decide +kernel⟩, wi_X1_setBid, we_X1_X1_setBid⟩
theorem m_J7_fill_53178 : zmS yJ7_fill_53178 cJ7_fill_53178 4 none 2 := ⟨⟨wn_J7, wo_J7_fill_53178, by decide, by decide, by decide +kernel⟩, wt_J7_fill_53178⟩
theorem m_X1_clear : zmI yX1_clear cX1_clear 1 none 0 := ⟨⟨wn_X1, wo_X1_clear, by decide, by decide, by decide +kernel⟩, wi_X1_clear, we_X1_X1_clear⟩
theorem m_X11_copy : zmS yX11_copy cX11_copy 2 none 2 := ⟨⟨wn_X11, wo_X11_copy, by decide, by decide, by decide +kernel⟩, wt_X11_copy⟩
theorem m_X8_setTo : zmI yX8_setTo cX8_setTo 2 none 1 := ⟨⟨wn_X8, wo_X8_setTo, by decide, by decide, by decide +kernel⟩, wi_X8_setTo, we_X8_X8_setTo⟩
theorem m_X1_setTo : zmI yX1_setTo cX1_setTo 2 none 1 := ⟨⟨wn_X1, wo_X1_setTo, by decide, by decide, by decide +kernel⟩, wi_X1_setTo, we_X1_X1_setTo⟩
theorem m_X1_isAboveBid : zmI yX1_isAboveBid cX1_isAboveBid 3 (some .boolean) 2 := ⟨⟨wn_X1, wo_X1_isAboveBid, by decide, by decide, by decide +kernel⟩, wi_X1_isAboveBid, we_X1_X1_isAboveBid⟩
theorem m_X11_isSide : zmS yX11_isSide cX11_isSide 1 (some .boolean) 1 := ⟨⟨wn_X11, wo_X11_isSide, by decide, by decide, by decide +kernel⟩, wt_X11_isSide⟩
theorem m_X1_addTrick : zmI yX1_addTrick cX1_addTrick 3 none 2 := ⟨⟨wn_X1, wo_X1_addTrick, by decide, by decide, by decide +kernel⟩, wi_X1_addTrick, we_X1_X1_addTrick⟩
theorem m_X1_moveTrick : zmI yX1_moveTrick cX1_moveTrick 3 none 2 := ⟨⟨wn_X1, wo_X1_moveTrick, by decide, by decide, by decide +kernel⟩, wi_X1_moveTrick, we_X1_X1_moveTrick⟩
theorem m_X11_isSeat : zmS yX11_isSeat cX11_isSeat 1 (some .boolean) 1 := ⟨⟨wn_X11, wo_X11_isSeat, by decide, by decide, by decide +kernel⟩, wt_X11_isSeat⟩
theorem m_X1_deny : zmI yX1_deny cX1_deny 3 none 2 := ⟨⟨wn_X1, wo_X1_deny, by decide, by decide, by decide +kernel⟩, wi_X1_deny, we_X1_X1_deny⟩
theorem m_X1_findRevoke : zmI yX1_findRevoke cX1_findRevoke 4 (some .int) 2 := ⟨⟨wn_X1, wo_X1_findRevoke, by decide, by decide, by decide +kernel⟩, wi_X1_findRevoke, we_X1_X1_findRevoke⟩
theorem m_X1_revokesOf : zmI yX1_revokesOf cX1_revokesOf 6 (some .int) 2 := ⟨⟨wn_X1, wo_X1_revokesOf, by decide, by decide, by decide +kernel⟩, wi_X1_revokesOf, we_X1_X1_revokesOf⟩
theorem m_X9_handOf : zmI yX9_handOf cX9_handOf 2 (some (.object "CardTables$Row")) 1 := ⟨⟨wn_X9, wo_X9_handOf, by decide, by decide, by decide +kernel⟩, wi_X9_handOf, we_X9_X9_handOf⟩
theorem m_X2_setBit : zmI yX2_setBit cX2_setBit 3 none 2 := ⟨⟨wn_X2, wo_X2_setBit, by decide, by decide, by decide +kernel⟩, wi_X2_setBit, we_X2_X2_setBit⟩
theorem m_X2_begin : zmI yX2_begin cX2_begin 5 none 2 := ⟨⟨wn_X2, wo_X2_begin, by decide, by decide, by decide +kernel⟩, wi_X2_begin, we_X2_X2_begin⟩
theorem m_X2_keyOf : zmI yX2_keyOf cX2_keyOf 8 (some .int) 1 := ⟨⟨wn_X2, wo_X2_keyOf, by decide, by decide, by decide +kernel⟩, wi_X2_keyOf, we_X2_X2_keyOf⟩
theorem m_X2_boundsAt : zmI yX2_boundsAt cX2_boundsAt 3 (some .int) 1 := ⟨⟨wn_X2, wo_X2_boundsAt, by decide, by decide, by decide +kernel⟩, wi_X2_boundsAt, we_X2_X2_boundsAt⟩
theorem m_X3_allows : zmI yX3_allows cX3_allows 9 (some .int) 5 := ⟨⟨wn_X3, wo_X3_allows, by decide, by decide, by decide +kernel⟩, wi_X3_allows, we_X3_X3_allows⟩
theorem m_X2_lets : zmI yX2_lets cX2_lets 4 (some .boolean) 2 := ⟨⟨wn_X2, wo_X2_lets, by decide, by decide, by decide +kernel⟩, wi_X2_lets, we_X2_X2_lets⟩
theorem m_X8_takeAt : zmI yX8_takeAt cX8_takeAt 3 (some .int) 1 := ⟨⟨wn_X8, wo_X8_takeAt, by decide, by decide, by decide +kernel⟩, wi_X8_takeAt, we_X8_X8_takeAt⟩
theorem m_X8_add : zmI yX8_add cX8_add 3 none 1 := ⟨⟨wn_X8, wo_X8_add, by decide, by decide, by decide +kernel⟩, wi_X8_add, we_X8_X8_add⟩
theorem m_X8_placeOf : zmI yX8_placeOf cX8_placeOf 3 (some .int) 1 := ⟨⟨wn_X8, wo_X8_placeOf, by decide, by decide, by decide +kernel⟩, wi_X8_placeOf, we_X8_X8_placeOf⟩
theorem m_X2_nextAble : zmI yX2_nextAble cX2_nextAble 4 (some .int) 1 := ⟨⟨wn_X2, wo_X2_nextAble, by decide, by decide, by decide +kernel⟩, wi_X2_nextAble, we_X2_X2_nextAble⟩
theorem m_X3_wins : zmI yX3_wins cX3_wins 6 (some .int) 3 := ⟨⟨wn_X3, wo_X3_wins, by decide, by decide, by decide +kernel⟩, wi_X3_wins, we_X3_X3_wins⟩
theorem m_X2_forward : zmI yX2_forward cX2_forward 7 (some .int) 2 := ⟨⟨wn_X2, wo_X2_forward, by decide, by decide, by decide +kernel⟩, wi_X2_forward, we_X2_X2_forward⟩
theorem m_X8_putAt : zmI yX8_putAt cX8_putAt 3 none 2 := ⟨⟨wn_X8, wo_X8_putAt, by decide, by decide, by decide +kernel⟩, wi_X8_putAt, we_X8_X8_putAt⟩
theorem m_X2_back : zmI yX2_back cX2_back 5 none 3 := ⟨⟨wn_X2, wo_X2_back, by decide, by decide, by decide +kernel⟩, wi_X2_back, we_X2_X2_back⟩
theorem m_X2_reaches : zmI yX2_reaches cX2_reaches 14 (some .boolean) 3 := ⟨⟨wn_X2, wo_X2_reaches, by decide, by decide, by decide +kernel⟩, wi_X2_reaches, we_X2_X2_reaches⟩
theorem m_X2_bestFrom : zmI yX2_bestFrom cX2_bestFrom 4 (some .int) 2 := ⟨⟨wn_X2, wo_X2_bestFrom, by decide, by decide, by decide +kernel⟩, wi_X2_bestFrom, we_X2_X2_bestFrom⟩
theorem m_X2_bestOf : zmI yX2_bestOf cX2_bestOf 3 (some .int) 2 := ⟨⟨wn_X2, wo_X2_bestOf, by decide, by decide, by decide +kernel⟩, wi_X2_bestOf, we_X2_X2_bestOf⟩
theorem m_X2_linePlace : zmI yX2_linePlace cX2_linePlace 11 (some .int) 3 := ⟨⟨wn_X2, wo_X2_linePlace, by decide, by decide, by decide +kernel⟩, wi_X2_linePlace, we_X2_X2_linePlace⟩
theorem m_X2_lineCard : zmI yX2_lineCard cX2_lineCard 8 (some .int) 3 := ⟨⟨wn_X2, wo_X2_lineCard, by decide, by decide, by decide +kernel⟩, wi_X2_lineCard, we_X2_X2_lineCard⟩
theorem m_X2_sureFrom : zmI yX2_sureFrom cX2_sureFrom 11 (some .int) 2 := ⟨⟨wn_X2, wo_X2_sureFrom, by decide, by decide, by decide +kernel⟩, wi_X2_sureFrom, we_X2_X2_sureFrom⟩
theorem m_X3_settle : zmI yX3_settle cX3_settle 5 (some .int) 4 := ⟨⟨wn_X3, wo_X3_settle, by decide, by decide, by decide +kernel⟩, wi_X3_settle, we_X3_X3_settle⟩
theorem m_X6_find : zmI yX6_find cX6_find 6 none 4 := ⟨⟨wn_X6, wo_X6_find, by decide, by decide, by decide +kernel⟩, wi_X6_find, we_X6_X6_find⟩
theorem m_X6_bodyAt : zmI yX6_bodyAt cX6_bodyAt 2 (some .int) 1 := ⟨⟨wn_X6, wo_X6_bodyAt, by decide, by decide, by decide +kernel⟩, wi_X6_bodyAt, we_X6_X6_bodyAt⟩
theorem m_X6_findingAt : zmI yX6_findingAt cX6_findingAt 4 (some .int) 2 := ⟨⟨wn_X6, wo_X6_findingAt, by decide, by decide, by decide +kernel⟩, wi_X6_findingAt, we_X6_X6_findingAt⟩
theorem m_X8_swap : zmI yX8_swap cX8_swap 4 none 2 := ⟨⟨wn_X8, wo_X8_swap, by decide, by decide, by decide +kernel⟩, wi_X8_swap, we_X8_X8_swap⟩
theorem m_X8_isLike : zmI yX8_isLike cX8_isLike 3 (some .boolean) 1 := ⟨⟨wn_X8, wo_X8_isLike, by decide, by decide, by decide +kernel⟩, wi_X8_isLike, we_X8_X8_isLike⟩
theorem m_X8_digestFrom : zmI yX8_digestFrom cX8_digestFrom 4 (some .int) 1 := ⟨⟨wn_X8, wo_X8_digestFrom, by decide, by decide, by decide +kernel⟩, wi_X8_digestFrom, we_X8_X8_digestFrom⟩
theorem m_X9_gatherCards : zmI yX9_gatherCards cX9_gatherCards 2 none 0 := ⟨⟨wn_X9, wo_X9_gatherCards, by decide, by decide, by decide +kernel⟩, wi_X9_gatherCards, we_X9_X9_gatherCards⟩
theorem m_X9_setUp : zmI yX9_setUp cX9_setUp 4 none 2 := ⟨⟨wn_X9, wo_X9_setUp, by decide, by decide, by decide +kernel⟩, wi_X9_setUp, we_X9_X9_setUp⟩
theorem m_X9_setTo : zmI yX9_setTo cX9_setTo 3 none 1 := ⟨⟨wn_X9, wo_X9_setTo, by decide, by decide, by decide +kernel⟩, wi_X9_setTo, we_X9_X9_setTo⟩
theorem m_X9_isOn : zmI yX9_isOn cX9_isOn 1 (some .boolean) 0 := ⟨⟨wn_X9, wo_X9_isOn, by decide, by decide, by decide +kernel⟩, wi_X9_isOn, we_X9_X9_isOn⟩
theorem m_X9_hasCard : zmI yX9_hasCard cX9_hasCard 2 (some .boolean) 1 := ⟨⟨wn_X9, wo_X9_hasCard, by decide, by decide, by decide +kernel⟩, wi_X9_hasCard, we_X9_X9_hasCard⟩
theorem m_X9_isTaken : zmI yX9_isTaken cX9_isTaken 2 (some .boolean) 1 := ⟨⟨wn_X9, wo_X9_isTaken, by decide, by decide, by decide +kernel⟩, wi_X9_isTaken, we_X9_X9_isTaken⟩
theorem m_X9_sizeBy : zmI yX9_sizeBy cX9_sizeBy 2 (some .int) 1 := ⟨⟨wn_X9, wo_X9_sizeBy, by decide, by decide, by decide +kernel⟩, wi_X9_sizeBy, we_X9_X9_sizeBy⟩
theorem m_X9_cardsWon : zmI yX9_cardsWon cX9_cardsWon 4 (some .int) 1 := ⟨⟨wn_X9, wo_X9_cardsWon, by decide, by decide, by decide +kernel⟩, wi_X9_cardsWon, we_X9_X9_cardsWon⟩
theorem m_X9_moveTo : zmI yX9_moveTo cX9_moveTo 3 none 2 := ⟨⟨wn_X9, wo_X9_moveTo, by decide, by decide, by decide +kernel⟩, wi_X9_moveTo, we_X9_X9_moveTo⟩
theorem m_X9_takeHandAway : zmI yX9_takeHandAway cX9_takeHandAway 4 none 1 := ⟨⟨wn_X9, wo_X9_takeHandAway, by decide, by decide, by decide +kernel⟩, wi_X9_takeHandAway, we_X9_X9_takeHandAway⟩
theorem m_X9_dealHands : zmI yX9_dealHands cX9_dealHands 5 none 1 := ⟨⟨wn_X9, wo_X9_dealHands, by decide, by decide, by decide +kernel⟩, wi_X9_dealHands, we_X9_X9_dealHands⟩
theorem m_X9_canLay : zmI yX9_canLay cX9_canLay 4 (some .boolean) 1 := ⟨⟨wn_X9, wo_X9_canLay, by decide, by decide, by decide +kernel⟩, wi_X9_canLay, we_X9_X9_canLay⟩
theorem m_X9_nextAble : zmI yX9_nextAble cX9_nextAble 4 (some .int) 1 := ⟨⟨wn_X9, wo_X9_nextAble, by decide, by decide, by decide +kernel⟩, wi_X9_nextAble, we_X9_X9_nextAble⟩
theorem m_X9_begin : zmI yX9_begin cX9_begin 5 none 2 := ⟨⟨wn_X9, wo_X9_begin, by decide, by decide, by decide +kernel⟩, wi_X9_begin, we_X9_X9_begin⟩
theorem m_X9_isBegun : zmI yX9_isBegun cX9_isBegun 1 (some .boolean) 0 := ⟨⟨wn_X9, wo_X9_isBegun, by decide, by decide, by decide +kernel⟩, wi_X9_isBegun, we_X9_X9_isBegun⟩
theorem m_X9_refusalToGive : zmI yX9_refusalToGive cX9_refusalToGive 5 (some .int) 3 := ⟨⟨wn_X9, wo_X9_refusalToGive, by decide, by decide, by decide +kernel⟩, wi_X9_refusalToGive, we_X9_X9_refusalToGive⟩
theorem m_X9_giveCard : zmI yX9_giveCard cX9_giveCard 3 (some .int) 2 := ⟨⟨wn_X9, wo_X9_giveCard, by decide, by decide, by decide +kernel⟩, wi_X9_giveCard, we_X9_X9_giveCard⟩
theorem m_X9_refusalToBid : zmI yX9_refusalToBid cX9_refusalToBid 7 (some .int) 4 := ⟨⟨wn_X9, wo_X9_refusalToBid, by decide, by decide, by decide +kernel⟩, wi_X9_refusalToBid, we_X9_X9_refusalToBid⟩
theorem m_X9_canDouble : zmI yX9_canDouble cX9_canDouble 4 (some .boolean) 1 := ⟨⟨wn_X9, wo_X9_canDouble, by decide, by decide, by decide +kernel⟩, wi_X9_canDouble, we_X9_X9_canDouble⟩
theorem m_X9_findingOf : zmI yX9_findingOf cX9_findingOf 5 (some .int) 3 := ⟨⟨wn_X9, wo_X9_findingOf, by decide, by decide, by decide +kernel⟩, wi_X9_findingOf, we_X9_X9_findingOf⟩
theorem m_X9_ruleAgainst : zmI yX9_ruleAgainst cX9_ruleAgainst 5 (some .int) 3 := ⟨⟨wn_X9, wo_X9_ruleAgainst, by decide, by decide, by decide +kernel⟩, wi_X9_ruleAgainst, we_X9_X9_ruleAgainst⟩
theorem m_X9_putRight : zmI yX9_putRight cX9_putRight 5 none 2 := ⟨⟨wn_X9, wo_X9_putRight, by decide, by decide, by decide +kernel⟩, wi_X9_putRight, we_X9_X9_putRight⟩
theorem m_X9_layCard : zmI yX9_layCard cX9_layCard 5 (some .int) 3 := ⟨⟨wn_X9, wo_X9_layCard, by decide, by decide, by decide +kernel⟩, wi_X9_layCard, we_X9_X9_layCard⟩
theorem m_X9_share : zmI yX9_share cX9_share 6 none 3 := ⟨⟨wn_X9, wo_X9_share, by decide, by decide, by decide +kernel⟩, wi_X9_share, we_X9_X9_share⟩
theorem m_X9_endDeal : zmI yX9_endDeal cX9_endDeal 3 none 1 := ⟨⟨wn_X9, wo_X9_endDeal, by decide, by decide, by decide +kernel⟩, wi_X9_endDeal, we_X9_X9_endDeal⟩
theorem m_X9_endTrick : zmI yX9_endTrick cX9_endTrick 6 none 1 := ⟨⟨wn_X9, wo_X9_endTrick, by decide, by decide, by decide +kernel⟩, wi_X9_endTrick, we_X9_X9_endTrick⟩
theorem m_X9_isEnd : zmI yX9_isEnd cX9_isEnd 3 (some .boolean) 0 := ⟨⟨wn_X9, wo_X9_isEnd, by decide, by decide, by decide +kernel⟩, wi_X9_isEnd, we_X9_X9_isEnd⟩
theorem m_X9_claimBy : zmI yX9_claimBy cX9_claimBy 8 none 3 := ⟨⟨wn_X9, wo_X9_claimBy, by decide, by decide, by decide +kernel⟩, wi_X9_claimBy, we_X9_X9_claimBy⟩
theorem m_X9_isLike : zmI yX9_isLike cX9_isLike 4 (some .boolean) 1 := ⟨⟨wn_X9, wo_X9_isLike, by decide, by decide, by decide +kernel⟩, wi_X9_isLike, we_X9_X9_isLike⟩
theorem m_X11_isGame : zmS yX11_isGame cX11_isGame 1 (some .boolean) 1 := ⟨⟨wn_X11, wo_X11_isGame, by decide, by decide, by decide +kernel⟩, wt_X11_isGame⟩
theorem m_X11_gameAt : zmI yX11_gameAt cX11_gameAt 2 (some (.object "CardTables$Game")) 1 := ⟨⟨wn_X11, wo_X11_gameAt, by decide, by decide, by decide +kernel⟩, wi_X11_gameAt, we_X11_X11_gameAt⟩
theorem m_X11_newGame : zmS yX11_newGame cX11_newGame 1 (some (.object "CardTables$Game")) 1 := ⟨⟨wn_X11, wo_X11_newGame, by decide, by decide, by decide +kernel⟩, wt_X11_newGame⟩
theorem m_X11_game : zmI yX11_game cX11_game 9 (some .int) 4 := ⟨⟨wn_X11, wo_X11_game, by decide, by decide, by decide +kernel⟩, wi_X11_game, we_X11_X11_game⟩
theorem m_X11_kindOf : zmI yX11_kindOf cX11_kindOf 3 (some .int) 1 := ⟨⟨wn_X11, wo_X11_kindOf, by decide, by decide, by decide +kernel⟩, wi_X11_kindOf, we_X11_X11_kindOf⟩
theorem m_X11_table : zmI yX11_table cX11_table 5 (some .int) 3 := ⟨⟨wn_X11, wo_X11_table, by decide, by decide, by decide +kernel⟩, wi_X11_table, we_X11_X11_table⟩
theorem m_X11_tableAt : zmI yX11_tableAt cX11_tableAt 3 (some (.object "CardTables$Table")) 1 := ⟨⟨wn_X11, wo_X11_tableAt, by decide, by decide, by decide +kernel⟩, wi_X11_tableAt, we_X11_X11_tableAt⟩
theorem m_X11_seat : zmI yX11_seat cX11_seat 6 (some .int) 3 := ⟨⟨wn_X11, wo_X11_seat, by decide, by decide, by decide +kernel⟩, wi_X11_seat, we_X11_X11_seat⟩
theorem m_X11_kind : zmI yX11_kind cX11_kind 6 (some .int) 3 := ⟨⟨wn_X11, wo_X11_kind, by decide, by decide, by decide +kernel⟩, wi_X11_kind, we_X11_X11_kind⟩
theorem m_X11_card : zmI yX11_card cX11_card 4 (some .int) 2 := ⟨⟨wn_X11, wo_X11_card, by decide, by decide, by decide +kernel⟩, wi_X11_card, we_X11_X11_card⟩
theorem m_X11_match : zmI yX11_match cX11_match 5 (some .int) 2 := ⟨⟨wn_X11, wo_X11_match, by decide, by decide, by decide +kernel⟩, wi_X11_match, we_X11_X11_match⟩
theorem m_X11_keep : zmI yX11_keep cX11_keep 3 none 1 := ⟨⟨wn_X11, wo_X11_keep, by decide, by decide, by decide +kernel⟩, wi_X11_keep, we_X11_X11_keep⟩
theorem m_X11_deal : zmI yX11_deal cX11_deal 6 (some .int) 3 := ⟨⟨wn_X11, wo_X11_deal, by decide, by decide, by decide +kernel⟩, wi_X11_deal, we_X11_X11_deal⟩
theorem m_X11_packed : zmS yX11_packed cX11_packed 4 (some .int) 4 := ⟨⟨wn_X11, wo_X11_packed, by decide, by decide, by decide +kernel⟩, wt_X11_packed⟩
theorem m_X11_give : zmI yX11_give cX11_give 6 (some .int) 3 := ⟨⟨wn_X11, wo_X11_give, by decide, by decide, by decide +kernel⟩, wi_X11_give, we_X11_X11_give⟩
theorem m_X11_bid : zmI yX11_bid cX11_bid 7 (some .int) 4 := ⟨⟨wn_X11, wo_X11_bid, by decide, by decide, by decide +kernel⟩, wi_X11_bid, we_X11_X11_bid⟩
theorem m_X11_doubled : zmI yX11_doubled cX11_doubled 4 (some .int) 2 := ⟨⟨wn_X11, wo_X11_doubled, by decide, by decide, by decide +kernel⟩, wi_X11_doubled, we_X11_X11_doubled⟩
theorem m_X11_play : zmI yX11_play cX11_play 9 (some .int) 5 := ⟨⟨wn_X11, wo_X11_play, by decide, by decide, by decide +kernel⟩, wi_X11_play, we_X11_X11_play⟩
theorem m_X11_lay : zmI yX11_lay cX11_lay 5 (some .int) 3 := ⟨⟨wn_X11, wo_X11_lay, by decide, by decide, by decide +kernel⟩, wi_X11_lay, we_X11_X11_lay⟩
theorem m_X11_revoke : zmI yX11_revoke cX11_revoke 5 (some .int) 3 := ⟨⟨wn_X11, wo_X11_revoke, by decide, by decide, by decide +kernel⟩, wi_X11_revoke, we_X11_X11_revoke⟩
theorem m_X11_allowed : zmI yX11_allowed cX11_allowed 6 (some .int) 3 := ⟨⟨wn_X11, wo_X11_allowed, by decide, by decide, by decide +kernel⟩, wi_X11_allowed, we_X11_X11_allowed⟩
theorem m_X11_turn : zmI yX11_turn cX11_turn 3 (some .int) 1 := ⟨⟨wn_X11, wo_X11_turn, by decide, by decide, by decide +kernel⟩, wi_X11_turn, we_X11_X11_turn⟩
theorem m_X11_trick : zmI yX11_trick cX11_trick 4 (some .int) 2 := ⟨⟨wn_X11, wo_X11_trick, by decide, by decide, by decide +kernel⟩, wi_X11_trick, we_X11_X11_trick⟩
theorem m_X11_hand : zmI yX11_hand cX11_hand 6 (some .int) 3 := ⟨⟨wn_X11, wo_X11_hand, by decide, by decide, by decide +kernel⟩, wi_X11_hand, we_X11_X11_hand⟩
theorem m_X11_left : zmI yX11_left cX11_left 4 (some .int) 2 := ⟨⟨wn_X11, wo_X11_left, by decide, by decide, by decide +kernel⟩, wi_X11_left, we_X11_X11_left⟩
theorem m_X11_winner : zmI yX11_winner cX11_winner 3 (some .int) 1 := ⟨⟨wn_X11, wo_X11_winner, by decide, by decide, by decide +kernel⟩, wi_X11_winner, we_X11_X11_winner⟩
theorem m_X11_won : zmI yX11_won cX11_won 5 (some .int) 3 := ⟨⟨wn_X11, wo_X11_won, by decide, by decide, by decide +kernel⟩, wi_X11_won, we_X11_X11_won⟩
theorem m_X11_revokes : zmI yX11_revokes cX11_revokes 5 (some .int) 3 := ⟨⟨wn_X11, wo_X11_revokes, by decide, by decide, by decide +kernel⟩, wi_X11_revokes, we_X11_X11_revokes⟩
theorem m_X11_sum : zmI yX11_sum cX11_sum 4 (some .int) 2 := ⟨⟨wn_X11, wo_X11_sum, by decide, by decide, by decide +kernel⟩, wi_X11_sum, we_X11_X11_sum⟩
theorem m_X11_tie : zmI yX11_tie cX11_tie 4 (some .int) 1 := ⟨⟨wn_X11, wo_X11_tie, by decide, by decide, by decide +kernel⟩, wi_X11_tie, we_X11_X11_tie⟩
theorem m_X11_best : zmI yX11_best cX11_best 4 (some .int) 2 := ⟨⟨wn_X11, wo_X11_best, by decide, by decide, by decide +kernel⟩, wi_X11_best, we_X11_X11_best⟩
theorem m_X11_line : zmI yX11_line cX11_line 5 (some .int) 3 := ⟨⟨wn_X11, wo_X11_line, by decide, by decide, by decide +kernel⟩, wi_X11_line, we_X11_X11_line⟩
theorem m_X11_check : zmI yX11_check cX11_check 5 (some .int) 2 := ⟨⟨wn_X11, wo_X11_check, by decide, by decide, by decide +kernel⟩, wi_X11_check, we_X11_X11_check⟩
theorem m_X11_claim : zmI yX11_claim cX11_claim 6 (some .int) 3 := ⟨⟨wn_X11, wo_X11_claim, by decide, by decide, by decide +kernel⟩, wi_X11_claim, we_X11_X11_claim⟩
theorem m_X11_undo : zmI yX11_undo cX11_undo 3 (some .int) 1 := ⟨⟨wn_X11, wo_X11_undo, by decide, by decide, by decide +kernel⟩, wi_X11_undo, we_X11_X11_undo⟩
theorem m_X11_repeatAside : zmI yX11_repeatAside cX11_repeatAside 5 none 4 := ⟨⟨wn_X11, wo_X11_repeatAside, by decide, by decide, by decide +kernel⟩, wi_X11_repeatAside, we_X11_X11_repeatAside⟩
theorem m_X11_replay : zmI yX11_replay cX11_replay 10 (some .int) 1 := ⟨⟨wn_X11, wo_X11_replay, by decide, by decide, by decide +kernel⟩, wi_X11_replay, we_X11_X11_replay⟩
theorem m_X11_digest : zmI yX11_digest cX11_digest 5 (some .int) 1 := ⟨⟨wn_X11, wo_X11_digest, by decide, by decide, by decide +kernel⟩, wi_X11_digest, we_X11_X11_digest⟩
theorem m_X11_finding : zmI yX11_finding cX11_finding 3 (some .int) 2 := ⟨⟨wn_X11, wo_X11_finding, by decide, by decide, by decide +kernel⟩, wi_X11_finding, we_X11_X11_finding⟩
theorem m_X11_trace : zmI yX11_trace cX11_trace 2 (some .int) 1 := ⟨⟨wn_X11, wo_X11_trace, by decide, by decide, by decide +kernel⟩, wi_X11_trace, we_X11_X11_trace⟩
theorem m_X11_forget : zmI yX11_forget cX11_forget 2 (some .int) 0 := ⟨⟨wn_X11, wo_X11_forget, by decide, by decide, by decide +kernel⟩, wi_X11_forget, we_X11_X11_forget⟩
theorem m_X11_tablesThere : zmI yX11_tablesThere cX11_tablesThere 3 (some .int) 0 := ⟨⟨wn_X11, wo_X11_tablesThere, by decide, by decide, by decide +kernel⟩, wi_X11_tablesThere, we_X11_X11_tablesThere⟩
theorem m_X11_gamesThere : zmI yX11_gamesThere cX11_gamesThere 3 (some .int) 0 := ⟨⟨wn_X11, wo_X11_gamesThere, by decide, by decide, by decide +kernel⟩, wi_X11_gamesThere, we_X11_X11_gamesThere⟩
theorem m_X11_count : zmI yX11_count cX11_count 2 (some .int) 1 := ⟨⟨wn_X11, wo_X11_count, by decide, by decide, by decide +kernel⟩, wi_X11_count, we_X11_X11_count⟩
theorem m_X11_status : zmI yX11_status cX11_status 5 (some .int) 2 := ⟨⟨wn_X11, wo_X11_status, by decide, by decide, by decide +kernel⟩, wi_X11_status, we_X11_X11_status⟩
theorem m_X12_in : zmS yX12_in cX12_in 3 (some .boolean) 3 := ⟨⟨wn_X12, wo_X12_in, by decide, by decide, by decide +kernel⟩, wt_X12_in⟩
theorem m_X12_least : zmS yX12_least cX12_least 2 (some .int) 2 := ⟨⟨wn_X12, wo_X12_least, by decide, by decide, by decide +kernel⟩, wt_X12_least⟩
theorem m_X12_most : zmS yX12_most cX12_most 2 (some .int) 2 := ⟨⟨wn_X12, wo_X12_most, by decide, by decide, by decide +kernel⟩, wt_X12_most⟩
theorem m_X12_body : zmI yX12_body cX12_body 2 none 1 := ⟨⟨wn_X12, wo_X12_body, by decide, by decide, by decide +kernel⟩, wi_X12_body, we_X12_X12_body⟩
theorem m_X12_find : zmI yX12_find cX12_find 6 none 4 := ⟨⟨wn_X12, wo_X12_find, by decide, by decide, by decide +kernel⟩, wi_X12_find, we_X12_X12_find⟩
theorem m_X12_isTable : zmI yX12_isTable cX12_isTable 2 (some .boolean) 1 := ⟨⟨wn_X12, wo_X12_isTable, by decide, by decide, by decide +kernel⟩, wi_X12_isTable, we_X12_X12_isTable⟩
theorem m_X12_isSeat : zmS yX12_isSeat cX12_isSeat 1 (some .boolean) 1 := ⟨⟨wn_X12, wo_X12_isSeat, by decide, by decide, by decide +kernel⟩, wt_X12_isSeat⟩
theorem m_X12_isCard : zmI yX12_isCard cX12_isCard 3 (some .boolean) 2 := ⟨⟨wn_X12, wo_X12_isCard, by decide, by decide, by decide +kernel⟩, wi_X12_isCard, we_X12_X12_isCard⟩
theorem m_X12_copy : zmI yX12_copy cX12_copy 4 none 2 := ⟨⟨wn_X12, wo_X12_copy, by decide, by decide, by decide +kernel⟩, wi_X12_copy, we_X12_X12_copy⟩
theorem m_X12_keep : zmI yX12_keep cX12_keep 3 none 1 := ⟨⟨wn_X12, wo_X12_keep, by decide, by decide, by decide +kernel⟩, wi_X12_keep, we_X12_X12_keep⟩
theorem m_X12_tell : zmI yX12_tell cX12_tell 7 none 5 := ⟨⟨wn_X12, wo_X12_tell, by decide, by decide, by decide +kernel⟩, wi_X12_tell, we_X12_X12_tell⟩
theorem m_X12_isGame : zmI yX12_isGame cX12_isGame 2 (some .boolean) 1 := ⟨⟨wn_X12, wo_X12_isGame, by decide, by decide, by decide +kernel⟩, wi_X12_isGame, we_X12_X12_isGame⟩
theorem m_X12_game : zmI yX12_game cX12_game 7 (some .int) 4 := ⟨⟨wn_X12, wo_X12_game, by decide, by decide, by decide +kernel⟩, wi_X12_game, we_X12_X12_game⟩
theorem m_X12_kindOf : zmI yX12_kindOf cX12_kindOf 2 (some .int) 1 := ⟨⟨wn_X12, wo_X12_kindOf, by decide, by decide, by decide +kernel⟩, wi_X12_kindOf, we_X12_X12_kindOf⟩
theorem m_X12_begin : zmI yX12_begin cX12_begin 4 none 1 := ⟨⟨wn_X12, wo_X12_begin, by decide, by decide, by decide +kernel⟩, wi_X12_begin, we_X12_X12_begin⟩
theorem m_X12_table : zmI yX12_table cX12_table 6 (some .int) 3 := ⟨⟨wn_X12, wo_X12_table, by decide, by decide, by decide +kernel⟩, wi_X12_table, we_X12_X12_table⟩
theorem m_X12_seat : zmI yX12_seat cX12_seat 8 (some .int) 3 := ⟨⟨wn_X12, wo_X12_seat, by decide, by decide, by decide +kernel⟩, wi_X12_seat, we_X12_X12_seat⟩
theorem m_X12_kind : zmI yX12_kind cX12_kind 6 (some .int) 3 := ⟨⟨wn_X12, wo_X12_kind, by decide, by decide, by decide +kernel⟩, wi_X12_kind, we_X12_X12_kind⟩
theorem m_X12_card : zmI yX12_card cX12_card 3 (some .int) 2 := ⟨⟨wn_X12, wo_X12_card, by decide, by decide, by decide +kernel⟩, wi_X12_card, we_X12_X12_card⟩
theorem m_X12_match : zmI yX12_match cX12_match 6 (some .int) 2 := ⟨⟨wn_X12, wo_X12_match, by decide, by decide, by decide +kernel⟩, wi_X12_match, we_X12_X12_match⟩
theorem m_X12_colour : zmI yX12_colour cX12_colour 4 (some .int) 2 := ⟨⟨wn_X12, wo_X12_colour, by decide, by decide, by decide +kernel⟩, wi_X12_colour, we_X12_X12_colour⟩
theorem m_X12_has : zmI yX12_has cX12_has 4 (some .boolean) 2 := ⟨⟨wn_X12, wo_X12_has, by decide, by decide, by decide +kernel⟩, wi_X12_has, we_X12_X12_has⟩
theorem m_X12_hasOther : zmI yX12_hasOther cX12_hasOther 5 (some .boolean) 2 := ⟨⟨wn_X12, wo_X12_hasOther, by decide, by decide, by decide +kernel⟩, wi_X12_hasOther, we_X12_X12_hasOther⟩
theorem m_X12_allows : zmI yX12_allows cX12_allows 7 (some .int) 2 := ⟨⟨wn_X12, wo_X12_allows, by decide, by decide, by decide +kernel⟩, wi_X12_allows, we_X12_X12_allows⟩
theorem m_X12_greatest : zmI yX12_greatest cX12_greatest 7 (some .int) 3 := ⟨⟨wn_X12, wo_X12_greatest, by decide, by decide, by decide +kernel⟩, wi_X12_greatest, we_X12_X12_greatest⟩
theorem m_X12_winsPlainly : zmI yX12_winsPlainly cX12_winsPlainly 4 (some .int) 1 := ⟨⟨wn_X12, wo_X12_winsPlainly, by decide, by decide, by decide +kernel⟩, wi_X12_winsPlainly, we_X12_X12_winsPlainly⟩
theorem m_X12_wins : zmI yX12_wins cX12_wins 7 (some .int) 1 := ⟨⟨wn_X12, wo_X12_wins, by decide, by decide, by decide +kernel⟩, wi_X12_wins, we_X12_X12_wins⟩
theorem m_X12_scorePlainly : zmI yX12_scorePlainly cX12_scorePlainly 5 (some .int) 2 := ⟨⟨wn_X12, wo_X12_scorePlainly, by decide, by decide, by decide +kernel⟩, wi_X12_scorePlainly, we_X12_X12_scorePlainly⟩
theorem m_X12_score : zmI yX12_score cX12_score 7 (some .int) 2 := ⟨⟨wn_X12, wo_X12_score, by decide, by decide, by decide +kernel⟩, wi_X12_score, we_X12_X12_score⟩
theorem m_X12_settle : zmI yX12_settle cX12_settle 6 (some .int) 2 := ⟨⟨wn_X12, wo_X12_settle, by decide, by decide, by decide +kernel⟩, wi_X12_settle, we_X12_X12_settle⟩
theorem m_X12_canLay : zmI yX12_canLay cX12_canLay 4 (some .boolean) 2 := ⟨⟨wn_X12, wo_X12_canLay, by decide, by decide, by decide +kernel⟩, wi_X12_canLay, we_X12_X12_canLay⟩
theorem m_X12_seatFrom : zmI yX12_seatFrom cX12_seatFrom 7 (some .int) 2 := ⟨⟨wn_X12, wo_X12_seatFrom, by decide, by decide, by decide +kernel⟩, wi_X12_seatFrom, we_X12_X12_seatFrom⟩
theorem m_X12_takeRest : zmI yX12_takeRest cX12_takeRest 4 none 2 := ⟨⟨wn_X12, wo_X12_takeRest, by decide, by decide, by decide +kernel⟩, wi_X12_takeRest, we_X12_X12_takeRest⟩
theorem m_X12_toHand : zmI yX12_toHand cX12_toHand 5 none 3 := ⟨⟨wn_X12, wo_X12_toHand, by decide, by decide, by decide +kernel⟩, wi_X12_toHand, we_X12_X12_toHand⟩
theorem m_X12_sizeOf : zmI yX12_sizeOf cX12_sizeOf 3 (some .int) 1 := ⟨⟨wn_X12, wo_X12_sizeOf, by decide, by decide, by decide +kernel⟩, wi_X12_sizeOf, we_X12_X12_sizeOf⟩
theorem m_X12_dealOut : zmI yX12_dealOut cX12_dealOut 8 none 3 := ⟨⟨wn_X12, wo_X12_dealOut, by decide, by decide, by decide +kernel⟩, wi_X12_dealOut, we_X12_X12_dealOut⟩
theorem m_X12_deal : zmI yX12_deal cX12_deal 5 (some .int) 3 := ⟨⟨wn_X12, wo_X12_deal, by decide, by decide, by decide +kernel⟩, wi_X12_deal, we_X12_X12_deal⟩
theorem m_X12_isOpen : zmI yX12_isOpen cX12_isOpen 3 (some .boolean) 2 := ⟨⟨wn_X12, wo_X12_isOpen, by decide, by decide, by decide +kernel⟩, wi_X12_isOpen, we_X12_X12_isOpen⟩
theorem m_X12_barsGive : zmI yX12_barsGive cX12_barsGive 4 (some .int) 3 := ⟨⟨wn_X12, wo_X12_barsGive, by decide, by decide, by decide +kernel⟩, wi_X12_barsGive, we_X12_X12_barsGive⟩
theorem m_X12_doGive : zmI yX12_doGive cX12_doGive 5 none 3 := ⟨⟨wn_X12, wo_X12_doGive, by decide, by decide, by decide +kernel⟩, wi_X12_doGive, we_X12_X12_doGive⟩
theorem m_X12_give : zmI yX12_give cX12_give 6 (some .int) 3 := ⟨⟨wn_X12, wo_X12_give, by decide, by decide, by decide +kernel⟩, wi_X12_give, we_X12_X12_give⟩
theorem m_X12_canBid : zmI yX12_canBid cX12_canBid 6 (some .boolean) 4 := ⟨⟨wn_X12, wo_X12_canBid, by decide, by decide, by decide +kernel⟩, wi_X12_canBid, we_X12_X12_canBid⟩
theorem m_X12_doBid : zmI yX12_doBid cX12_doBid 5 none 4 := ⟨⟨wn_X12, wo_X12_doBid, by decide, by decide, by decide +kernel⟩, wi_X12_doBid, we_X12_X12_doBid⟩
theorem m_X12_bid : zmI yX12_bid cX12_bid 6 (some .int) 4 := ⟨⟨wn_X12, wo_X12_bid, by decide, by decide, by decide +kernel⟩, wi_X12_bid, we_X12_X12_bid⟩
theorem m_X12_canDouble : zmI yX12_canDouble cX12_canDouble 5 (some .boolean) 2 := ⟨⟨wn_X12, wo_X12_canDouble, by decide, by decide, by decide +kernel⟩, wi_X12_canDouble, we_X12_X12_canDouble⟩
theorem m_X12_doubled : zmI yX12_doubled cX12_doubled 4 (some .int) 2 := ⟨⟨wn_X12, wo_X12_doubled, by decide, by decide, by decide +kernel⟩, wi_X12_doubled, we_X12_X12_doubled⟩
theorem m_X12_look : zmI yX12_look cX12_look 4 none 2 := ⟨⟨wn_X12, wo_X12_look, by decide, by decide, by decide +kernel⟩, wi_X12_look, we_X12_X12_look⟩
theorem m_X12_meets : zmI yX12_meets cX12_meets 5 (some .int) 4 := ⟨⟨wn_X12, wo_X12_meets, by decide, by decide, by decide +kernel⟩, wi_X12_meets, we_X12_X12_meets⟩
theorem m_X12_playMeets : zmI yX12_playMeets cX12_playMeets 6 (some .int) 4 := ⟨⟨wn_X12, wo_X12_playMeets, by decide, by decide, by decide +kernel⟩, wi_X12_playMeets, we_X12_X12_playMeets⟩
theorem m_X12_putRight : zmI yX12_putRight cX12_putRight 6 none 3 := ⟨⟨wn_X12, wo_X12_putRight, by decide, by decide, by decide +kernel⟩, wi_X12_putRight, we_X12_X12_putRight⟩
theorem m_X12_showFound : zmI yX12_showFound cX12_showFound 6 none 3 := ⟨⟨wn_X12, wo_X12_showFound, by decide, by decide, by decide +kernel⟩, wi_X12_showFound, we_X12_X12_showFound⟩
theorem m_X12_endDeal : zmI yX12_endDeal cX12_endDeal 7 none 2 := ⟨⟨wn_X12, wo_X12_endDeal, by decide, by decide, by decide +kernel⟩, wi_X12_endDeal, we_X12_X12_endDeal⟩
theorem m_X12_endTrick : zmI yX12_endTrick cX12_endTrick 9 none 2 := ⟨⟨wn_X12, wo_X12_endTrick, by decide, by decide, by decide +kernel⟩, wi_X12_endTrick, we_X12_X12_endTrick⟩
theorem m_X12_doLay : zmI yX12_doLay cX12_doLay 7 none 4 := ⟨⟨wn_X12, wo_X12_doLay, by decide, by decide, by decide +kernel⟩, wi_X12_doLay, we_X12_X12_doLay⟩
theorem m_X12_play : zmI yX12_play cX12_play 8 (some .int) 4 := ⟨⟨wn_X12, wo_X12_play, by decide, by decide, by decide +kernel⟩, wi_X12_play, we_X12_X12_play⟩
theorem m_X12_lay : zmI yX12_lay cX12_lay 4 (some .int) 3 := ⟨⟨wn_X12, wo_X12_lay, by decide, by decide, by decide +kernel⟩, wi_X12_lay, we_X12_X12_lay⟩
theorem m_X12_revoke : zmI yX12_revoke cX12_revoke 4 (some .int) 3 := ⟨⟨wn_X12, wo_X12_revoke, by decide, by decide, by decide +kernel⟩, wi_X12_revoke, we_X12_X12_revoke⟩
theorem m_X12_allowed : zmI yX12_allowed cX12_allowed 6 (some .int) 3 := ⟨⟨wn_X12, wo_X12_allowed, by decide, by decide, by decide +kernel⟩, wi_X12_allowed, we_X12_X12_allowed⟩
theorem m_X12_turn : zmI yX12_turn cX12_turn 2 (some .int) 1 := ⟨⟨wn_X12, wo_X12_turn, by decide, by decide, by decide +kernel⟩, wi_X12_turn, we_X12_X12_turn⟩
theorem m_X12_trick : zmI yX12_trick cX12_trick 3 (some .int) 2 := ⟨⟨wn_X12, wo_X12_trick, by decide, by decide, by decide +kernel⟩, wi_X12_trick, we_X12_X12_trick⟩
theorem m_X12_hand : zmI yX12_hand cX12_hand 5 (some .int) 3 := ⟨⟨wn_X12, wo_X12_hand, by decide, by decide, by decide +kernel⟩, wi_X12_hand, we_X12_X12_hand⟩
theorem m_X12_left : zmI yX12_left cX12_left 3 (some .int) 2 := ⟨⟨wn_X12, wo_X12_left, by decide, by decide, by decide +kernel⟩, wi_X12_left, we_X12_X12_left⟩
theorem m_X12_winner : zmI yX12_winner cX12_winner 2 (some .int) 1 := ⟨⟨wn_X12, wo_X12_winner, by decide, by decide, by decide +kernel⟩, wi_X12_winner, we_X12_X12_winner⟩
theorem m_X12_won : zmI yX12_won cX12_won 7 (some .int) 3 := ⟨⟨wn_X12, wo_X12_won, by decide, by decide, by decide +kernel⟩, wi_X12_won, we_X12_X12_won⟩
theorem m_X12_revokes : zmI yX12_revokes cX12_revokes 7 (some .int) 3 := ⟨⟨wn_X12, wo_X12_revokes, by decide, by decide, by decide +kernel⟩, wi_X12_revokes, we_X12_X12_revokes⟩
theorem m_X12_sum : zmI yX12_sum cX12_sum 3 (some .int) 2 := ⟨⟨wn_X12, wo_X12_sum, by decide, by decide, by decide +kernel⟩, wi_X12_sum, we_X12_X12_sum⟩
theorem m_X12_tie : zmI yX12_tie cX12_tie 7 (some .int) 1 := ⟨⟨wn_X12, wo_X12_tie, by decide, by decide, by decide +kernel⟩, wi_X12_tie, we_X12_X12_tie⟩
theorem m_X12_isEnd : zmI yX12_isEnd cX12_isEnd 5 (some .boolean) 1 := ⟨⟨wn_X12, wo_X12_isEnd, by decide, by decide, by decide +kernel⟩, wi_X12_isEnd, we_X12_X12_isEnd⟩
theorem m_X12_leftOf : zmS yX12_leftOf cX12_leftOf 3 (some .int) 2 := ⟨⟨wn_X12, wo_X12_leftOf, by decide, by decide, by decide +kernel⟩, wt_X12_leftOf⟩
theorem m_X12_isBetween : zmI yX12_isBetween cX12_isBetween 5 (some .boolean) 1 := ⟨⟨wn_X12, wo_X12_isBetween, by decide, by decide, by decide +kernel⟩, wi_X12_isBetween, we_X12_X12_isBetween⟩
theorem m_X12_seatAll : zmI yX12_seatAll cX12_seatAll 5 none 2 := ⟨⟨wn_X12, wo_X12_seatAll, by decide, by decide, by decide +kernel⟩, wi_X12_seatAll, we_X12_X12_seatAll⟩
theorem m_X12_leaderFrom : zmI yX12_leaderFrom cX12_leaderFrom 4 (some .int) 2 := ⟨⟨wn_X12, wo_X12_leaderFrom, by decide, by decide, by decide +kernel⟩, wi_X12_leaderFrom, we_X12_X12_leaderFrom⟩
theorem m_X12_handLeft : zmI yX12_handLeft cX12_handLeft 3 none 1 := ⟨⟨wn_X12, wo_X12_handLeft, by decide, by decide, by decide +kernel⟩, wi_X12_handLeft, we_X12_X12_handLeft⟩
theorem m_X12_nextPlace : zmI yX12_nextPlace cX12_nextPlace 5 (some .int) 2 := ⟨⟨wn_X12, wo_X12_nextPlace, by decide, by decide, by decide +kernel⟩, wi_X12_nextPlace, we_X12_X12_nextPlace⟩
theorem m_X12_rate : zmI yX12_rate cX12_rate 6 none 3 := ⟨⟨wn_X12, wo_X12_rate, by decide, by decide, by decide +kernel⟩, wi_X12_rate, we_X12_X12_rate⟩
theorem m_X12_takeUp : zmI yX12_takeUp cX12_takeUp 2 none 1 := ⟨⟨wn_X12, wo_X12_takeUp, by decide, by decide, by decide +kernel⟩, wi_X12_takeUp, we_X12_X12_takeUp⟩
theorem m_X12_goThrough : zmI yX12_goThrough cX12_goThrough 11 none 2 := ⟨⟨wn_X12, wo_X12_goThrough, by decide, by decide, by decide +kernel⟩, wi_X12_goThrough, we_X12_X12_goThrough⟩
theorem m_X12_solve : zmI yX12_solve cX12_solve 7 none 3 := ⟨⟨wn_X12, wo_X12_solve, by decide, by decide, by decide +kernel⟩, wi_X12_solve, we_X12_X12_solve⟩
theorem m_X12_sureAt : zmI yX12_sureAt cX12_sureAt 4 (some .int) 3 := ⟨⟨wn_X12, wo_X12_sureAt, by decide, by decide, by decide +kernel⟩, wi_X12_sureAt, we_X12_X12_sureAt⟩
theorem m_X12_endBars : zmI yX12_endBars cX12_endBars 3 (some .int) 2 := ⟨⟨wn_X12, wo_X12_endBars, by decide, by decide, by decide +kernel⟩, wi_X12_endBars, we_X12_X12_endBars⟩
theorem m_X12_best : zmI yX12_best cX12_best 4 (some .int) 2 := ⟨⟨wn_X12, wo_X12_best, by decide, by decide, by decide +kernel⟩, wi_X12_best, we_X12_X12_best⟩
theorem m_X12_check : zmI yX12_check cX12_check 6 (some .int) 2 := ⟨⟨wn_X12, wo_X12_check, by decide, by decide, by decide +kernel⟩, wi_X12_check, we_X12_X12_check⟩
theorem m_X12_line : zmI yX12_line cX12_line 13 (some .int) 3 := ⟨⟨wn_X12, wo_X12_line, by decide, by decide, by decide +kernel⟩, wi_X12_line, we_X12_X12_line⟩
theorem m_X12_doClaim : zmI yX12_doClaim cX12_doClaim 9 none 4 := ⟨⟨wn_X12, wo_X12_doClaim, by decide, by decide, by decide +kernel⟩, wi_X12_doClaim, we_X12_X12_doClaim⟩
theorem m_X12_claim : zmI yX12_claim cX12_claim 5 (some .int) 3 := ⟨⟨wn_X12, wo_X12_claim, by decide, by decide, by decide +kernel⟩, wi_X12_claim, we_X12_X12_claim⟩
theorem m_X12_undo : zmI yX12_undo cX12_undo 2 (some .int) 1 := ⟨⟨wn_X12, wo_X12_undo, by decide, by decide, by decide +kernel⟩, wi_X12_undo, we_X12_X12_undo⟩
theorem m_X12_again : zmI yX12_again cX12_again 6 none 4 := ⟨⟨wn_X12, wo_X12_again, by decide, by decide, by decide +kernel⟩, wi_X12_again, we_X12_X12_again⟩
theorem m_X12_replay : zmI yX12_replay cX12_replay 7 (some .int) 1 := ⟨⟨wn_X12, wo_X12_replay, by decide, by decide, by decide +kernel⟩, wi_X12_replay, we_X12_X12_replay⟩
theorem m_X12_digest : zmI yX12_digest cX12_digest 6 (some .int) 1 := ⟨⟨wn_X12, wo_X12_digest, by decide, by decide, by decide +kernel⟩, wi_X12_digest, we_X12_X12_digest⟩
theorem m_X12_finding : zmI yX12_finding cX12_finding 4 (some .int) 2 := ⟨⟨wn_X12, wo_X12_finding, by decide, by decide, by decide +kernel⟩, wi_X12_finding, we_X12_X12_finding⟩
theorem m_X12_trace : zmI yX12_trace cX12_trace 3 (some .int) 1 := ⟨⟨wn_X12, wo_X12_trace, by decide, by decide, by decide +kernel⟩, wi_X12_trace, we_X12_X12_trace⟩
theorem m_X12_forget : zmI yX12_forget cX12_forget 2 (some .int) 0 := ⟨⟨wn_X12, wo_X12_forget, by decide, by decide, by decide +kernel⟩, wi_X12_forget, we_X12_X12_forget⟩
theorem m_X12_count : zmI yX12_count cX12_count 5 (some .int) 1 := ⟨⟨wn_X12, wo_X12_count, by decide, by decide, by decide +kernel⟩, wi_X12_count, we_X12_X12_count⟩
theorem m_X12_status : zmI yX12_status cX12_status 4 (some .int) 2 := ⟨⟨wn_X12, wo_X12_status, by decide, by decide, by decide +kernel⟩, wi_X12_status, we_X12_X12_status⟩
