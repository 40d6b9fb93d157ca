/-! THE CLAIM OUT OF ONE WALK OF THE LAW'S BODY. Your part is whole_start (and what it stands on); all else here is the same for every law, but numbers. -/
def R_law : String := "CardTablesLaw"
def lw_P (b : Addr) (xs : List Int32) (args : Array Value) (s : State) : Prop := args = #[.ref b] ∧ s.IntsAt b xs ∧ xs.length ≤ 2560 ∧ (Jvm.Cond.and given_1 narrow_1).before args s = true
def lw_Q (_ : Array Value) (s : State) (o : Outcome) (t : State) : Prop := o = .returned (some (.int 1)) ∧ Framed s o t [] 600000 7302250
def lw_Z (below : List Frame) (a : Array Value) (s : State) : State → Prop := fun t => ∃ o, t.status = .running ∧ Ended t below o ∧ lw_Q a s o t
/-- the law's own end, with 1 on the stack, nothing written that was there before, its room as the claim has it -/
theorem lw_ret {p : Program} {l : Launch} {e : Env} {s : State} {m : MethodId} {below : List Frame} {meth : Method} {c : Code} {b : Nat} (hx : p.tables.exec = Jvm.exec) (hb : c.code = code) (hr : meth.sig.returnType = ret) (hlocks : meth.locks = false) {pc : Nat} {H : Heap} {ls : Array Slot} (hdg : decode code pc = .ok (.ireturn, 1)) : W p l e room_1 s m #[Value.ref b] below meth c H [] 600000 7302250 (lw_Z below #[Value.ref b] s) (F0 m pc ls [.int 1]) := by
  intro T hT X
  obtain ⟨fs, hret, hrun, hended, hW, hframe⟩ := X.leave (v := some (.int 1)) (hlocks := hlocks) (fun h => by rw [hr] at h; cases h)
  have hmeth' : T.vm.method? m = some meth := X.method'
  refine ⟨T.setFrames fs, ?_, .returned (some (.int 1)), hrun, hended, rfl, ⟨_, rfl⟩, hW, hframe⟩
  jvm_step X.here [X.here.top, hx, hb, hdg, hmeth', hr, ret, narrow_b1]
  (try refine ⟨rfl, ?_⟩); (try refine ⟨rfl, ?_⟩)
  first | (intro acts; rw [hret _ acts rfl rfl rfl]) | rw [hret _ _ rfl rfl rfl]
  exact Steps.refl _
/-- what holds at the law's entry: the machine, the code, the tables' words (any of lw_tbl by 'hts w (by decide +kernel)'), the script of L ints xs at the cell b, what the Statement gives of the start (any of its parts by flat_of_before) -/
def lw_At (p : Program) (s : State) (m : MethodId) (meth : Method) (c : Code) (b L : Nat) (xs : Nat → Int32) : Prop :=
  p.tables.exec = Jvm.exec ∧ c.code = code ∧ meth.sig.returnType = ret ∧ c.maxLocals = 4 ∧ s.vm.findClass R_law = some m.cls ∧ (∀ w ∈ lw_tbl, w.before #[Value.ref b] s = true) ∧ va_X b L xs s s.heap ∧ b < s.heap.size ∧ meth.locks = false ∧ (Jvm.Cond.and given_1 narrow_1).before #[Value.ref b] s = true
def lwN (s : State) : Nat → Prop := fun q => s.heap.size ≤ q
def zRK0 (s : State) : Prop := ∃ t : Nat, va_Z "CardTables$Ends" "RANKS" "[I" (.ref t) (lwN s) s s.heap ∧ va_T .int t 16 (fun j => .int (zRf j)) (lwN s) s s.heap
/-- what stands fast over the law's run -/
def lwG (p : Program) (s : State) (m : MethodId) (meth : Method) (c : Code) (sb L : Nat) (xs : Nat → Int32) (D : va_G) : Prop := lw_At p s m meth c sb L xs ∧ L ≤ 2560 ∧ va_K D vwCl [] s ∧ zNW s ∧ zRK0 s ∧ va_Nc RX7 RX3 s
def lwX (D : va_G) (s : State) (K : zK) (V : zV) (a : Nat) (H : Heap) : Prop := zOk K ∧ zI K V ∧ zAr K s ∧ (a ∈ zl K ∧ zk K a = 10) ∧ one22 K a ∧ gok K ∧ (∀ x ∈ zl K, lwN s x) ∧ va_P D vwCl (zW K V) H
def lwM (D : va_G) (s : State) (Km : zK) (f : Nat → Int32) (A : Nat → Nat → Int32) (b : Nat) (n : Int) (H : Heap) : Prop := mK Km ∧ mT f A ∧ okk n f A ∧ zAr Km s ∧ (b ∈ zl Km ∧ zk Km b = 11) ∧ (∀ x ∈ zl Km, lwN s x) ∧ va_P D vwCl (zW Km (mV Km f A)) H
/-- the law's state between two calls: both pools, apart; the games agree -/
def lwT (D : va_G) (s : State) (K : zK) (V : zV) (a : Nat) (Km : zK) (f : Nat → Int32) (A : Nat → Nat → Int32) (b : Nat) (n : Int) (H : Heap) (locs : List Loc) : Prop := lwX D s K V a H ∧ lwM D s Km f A b n H ∧ (∀ x ∈ zl K, x ∉ zl Km) ∧ (∀ j, j < 6 → A 43 j = gk K j) ∧ va_S (lwN s) s.heap H locs
theorem pl_lt {D : va_G} {K : zK} {V : zV} {H : Heap} (hP : va_P D vwCl (zW K V) H) {x : Nat} (hx : x ∈ zl K) : x < H.size := by
  obtain ⟨i, hi⟩ := zl_at (f := zF K V) hx
  exact (hP i _ hi).lt
theorem pl_keep {D : va_G} {K : zK} {V : zV} {H H1 : Heap} (hP : va_P D vwCl (zW K V) H) (hk : ∀ x ∈ zl K, H1[x]? = H[x]?) : va_P D vwCl (zW K V) H1 := fun i x hi => (hP i x hi).kept (hk x.1 (pl_mem hi))
theorem okk.up {n : Int} {f : Nat → Int32} {A : Nat → Nat → Int32} (h : okk n f A) : okk (n + 1) f A := h.same (by omega) rfl rfl rfl (by omega) (by omega)
theorem isG.cg {k k' : Nat → Int32} (h : ∀ j, j < 6 → k' j = k j) {g : Int32} : isG k g ↔ isG k' g := by
  unfold isG
  constructor
  · intro ⟨h0, h1, h2⟩
    exact ⟨h0, h1, by rw [h _ (by show g.toInt.toNat < 6; omega)]; exact h2⟩
  · intro ⟨h0, h1, h2⟩
    exact ⟨h0, h1, by rw [← h _ (by show g.toInt.toNat < 6; omega)]; exact h2⟩
theorem gC1.cg {k k' : Nat → Int32} (h : ∀ j, j < 6 → k' j = k j) {g kd a b : Int32} : gC1 k g kd a b ↔ gC1 k' g kd a b := by
  unfold gC1; rw [isG.cg h (g := a), isG.cg h (g := b)]
theorem gC3.cg {k k' : Nat → Int32} (h : ∀ j, j < 6 → k' j = k j) {g kd a b : Int32} (n1 : ¬ gC1 k g kd a b) : gC3 k kd a b ↔ gC3 k' kd a b := by
  have hr : kd.toInt = 4 → isG k a ∧ isG k b := fun h4 => ⟨Classical.byContradiction (fun h9 => n1 (Or.inr ⟨h4, Or.inl h9⟩)), Classical.byContradiction (fun h9 => n1 (Or.inr ⟨h4, Or.inr h9⟩))⟩
  unfold gC3
  constructor
  · intro ⟨h4, h5⟩
    obtain ⟨ra, rb⟩ := hr h4
    refine ⟨h4, ?_⟩
    rw [h a.toNatClampNeg (show a.toInt.toNat < 6 by have := ra.1; have := ra.2.1; omega), h b.toNatClampNeg (show b.toInt.toNat < 6 by have := rb.1; have := rb.2.1; omega)]; exact h5
  · intro ⟨h4, h5⟩
    obtain ⟨ra, rb⟩ := hr h4
    refine ⟨h4, ?_⟩
    rw [h a.toNatClampNeg (show a.toInt.toNat < 6 by have := ra.1; have := ra.2.1; omega), h b.toNatClampNeg (show b.toInt.toNat < 6 by have := rb.1; have := rb.2.1; omega)] at h5; exact h5
theorem gaR.cg {k k' : Nat → Int32} (h : ∀ j, j < 6 → k' j = k j) {g kd a b : Int32} {r : Int} (h1 : gaR k' g kd a b r) : gaR k g kd a b r := by
  rcases h1 with ⟨a1, e⟩ | ⟨a1, a2, e⟩ | ⟨a1, a2, a3, e⟩ | ⟨a1, a2, a3, e⟩
  · exact Or.inl ⟨(gC1.cg h).mpr a1, e⟩
  · exact Or.inr (Or.inl ⟨fun h9 => a1 ((gC1.cg h).mp h9), a2, e⟩)
  · have n1 : ¬ gC1 k g kd a b := fun h9 => a1 ((gC1.cg h).mp h9)
    exact Or.inr (Or.inr (Or.inl ⟨n1, a2, (gC3.cg h n1).mpr a3, e⟩))
  · have n1 : ¬ gC1 k g kd a b := fun h9 => a1 ((gC1.cg h).mp h9)
    exact Or.inr (Or.inr (Or.inr ⟨n1, a2, fun h9 => a3 ((gC3.cg h n1).mp h9), e⟩))
theorem kR.cg {k k' : Nat → Int32} (h : ∀ j, j < 6 → k' j = k j) {g r : Int32} (h1 : kR k' g r) : kR k g r := by
  rcases h1 with ⟨a1, e⟩ | ⟨a1, e⟩
  · exact Or.inl ⟨(isG.cg h).mpr a1, by rw [e, h g.toNatClampNeg (show g.toInt.toNat < 6 by have := a1.1; have := a1.2.1; omega)]⟩
  · exact Or.inr ⟨fun h9 => a1 ((isG.cg h).mp h9), e⟩
theorem tNo.cg {k k' : Nat → Int32} (h : ∀ j, j < 6 → k' j = k j) {t g : Int32} : tNo k t g ↔ tNo k' t g := by unfold tNo; rw [isG.cg h (g := g)]
theorem tRs.cg {k k' : Nat → Int32} (h : ∀ j, j < 6 → k' j = k j) {t p g : Int32} {r : Int} (h1 : tRs k' t p g r) : tRs k t p g r := by
  unfold tRs at *; rw [tNo.cg h]; exact h1
section LW
variable {p : Program} {l : Launch} {e : Env} {s : State} {m : MethodId} {below : List Frame} {meth : Method} {c : Code} {H : Heap} {locs : List Loc} {cells slots : Nat} {Q : State → Prop}
variable {pc : Nat} {ls : Array Slot} {rest : List Value} {D : va_G} {K Km : zK} {V : zV} {f : Nat → Int32} {A : Nat → Nat → Int32} {a b sb L index maxL d : Nat} {n : Int} {xs : Nat → Int32} {y : MethodName} {bytes : ByteArray} {As : List Value} {ret : Option FieldType} {Qc : Array Value → State → Outcome → State → Prop} {free : Addr → Prop}
theorem lwG.C (G : lwG p s m meth c sb L xs D) : CallFix p m c code 4 s #[Value.ref sb] zw RL := ⟨G.1.1, G.1.2.1, G.1.2.2.2.1, G.1.2.2.2.2.1, fun w hw => G.1.2.2.2.2.2.1 w (List.mem_filter.mp hw).1⟩
theorem lw_zS (G : lwG p s m meth c sb L xs D) (hAr : zAr K s) (hN : ∀ x ∈ zl K, lwN s x) (hS : va_S (lwN s) s.heap H locs) {U : State} (hU : U.heap = H) (hW : s.WarmedH U.vm) : zS D K U := by
  obtain ⟨t, h1, h2⟩ := G.2.2.2.2.1
  refine ⟨va_K.moved hW.alike G.2.2.1, hAr.moved hW.alike, ⟨t, ?_, ?_⟩, zNW.warm hW G.2.2.2.1⟩
  · rw [hU]; exact ((h1.kept hS.2.1).moved hW.alike).narrow (fun q hq => hN q hq)
  · rw [hU]; exact ((h2.kept hS.2.1).moved hW.alike).narrow (fun q hq => hN q hq)
theorem lw_recvX (G : lwG p s m meth c sb L xs D) (hX : lwX D s K V a H) : ∃ cell : Cell, H[a]? = some cell ∧ cell.vm.isStatics = false ∧ s.vm.findClass RX11 = some cell.cls := by
  obtain ⟨k, hk⟩ := zl_at (f := zF K V) hX.2.2.2.1.1
  rw [zF_10 hX.2.2.2.1.2] at hk
  exact va_recv G.2.2.1 hX.2.2.2.2.2.2.2 rfl hk
theorem lw_recvM (G : lwG p s m meth c sb L xs D) (hM : lwM D s Km f A b n H) : ∃ cell : Cell, H[b]? = some cell ∧ cell.vm.isStatics = false ∧ s.vm.findClass RX12 = some cell.cls := by
  obtain ⟨k, hk⟩ := zl_at (f := zF Km (mV Km f A)) hM.2.2.2.2.1.1
  rw [zF_11 hM.2.2.2.2.1.2] at hk
  exact va_recv G.2.2.1 hM.2.2.2.2.2.2 rfl hk
theorem lw_runX (G : lwG p s m meth c sb L xs D) (hX : lwX D s K V a H) (hS : va_S (lwN s) s.heap H locs) (hM : Met l y (zc y bytes maxL ret) (rmd d) (va_Pc (.ref a :: As) (zB D K V)) Qc 0 0 free) (hm : zmI y bytes maxL ret As.length) (hy : y.cls = RX11) (hl : (.methodLink RL index y : Cond) ∈ zw) (hd : d + 1 ≤ room_1.frames ∧ 8 + (maxL + 11) + 64 * d ≤ room_1.locals) (hf : cells + 0 ≤ room_1.cells ∧ slots + 0 ≤ room_1.slots) (hsz : ls.size = 4) (hrest : (rest.map fun v => v.category).sum ≤ 8) (hdg : decode code pc = .ok (.invokevirtual index, 3)) : va_Run p l e room_1 s m #[Value.ref sb] below meth c H locs cells slots 0 0 (F0 m pc ls (As.reverse ++ .ref a :: rest)) rest (Qc (Value.ref a :: As).toArray) free :=
  va_runV (C := y.cls) G.C hM ⟨callB_of As.length G.C.2.2.2.2 (zGc hm.1.2.1) rfl rfl rfl (G.C.2.2.2.2 _ hm.1.1) (G.C.2.2.2.2 _ hl) hm.1.2.2 hd, G.C.2.2.2.2 _ hm.2.1, G.C.2.2.2.2 _ hm.2.2⟩ ⟨zB.blind, by rw [hy]; exact lw_recvX G hX, fun U hU hW => ⟨rfl, by rw [hU]; exact hX.2.2.2.2.2.2.2, lw_zS G hX.2.2.1 hX.2.2.2.2.2.2.1 hS hU hW⟩⟩ rfl rfl hsz rfl (lv_room hrest) hdg hf
theorem lw_runM (G : lwG p s m meth c sb L xs D) (hX : lwM D s Km f A b n H) (hS : va_S (lwN s) s.heap H locs) (hM : Met l y (zc y bytes maxL ret) (rmd d) (va_Pc (.ref b :: As) (zB D Km (mV Km f A))) Qc 0 0 free) (hm : zmI y bytes maxL ret As.length) (hy : y.cls = RX12) (hl : (.methodLink RL index y : Cond) ∈ zw) (hd : d + 1 ≤ room_1.frames ∧ 8 + (maxL + 11) + 64 * d ≤ room_1.locals) (hf : cells + 0 ≤ room_1.cells ∧ slots + 0 ≤ room_1.slots) (hsz : ls.size = 4) (hrest : (rest.map fun v => v.category).sum ≤ 8) (hdg : decode code pc = .ok (.invokevirtual index, 3)) : va_Run p l e room_1 s m #[Value.ref sb] below meth c H locs cells slots 0 0 (F0 m pc ls (As.reverse ++ .ref b :: rest)) rest (Qc (Value.ref b :: As).toArray) free :=
  va_runV (C := y.cls) G.C hM ⟨callB_of As.length G.C.2.2.2.2 (zGc hm.1.2.1) rfl rfl rfl (G.C.2.2.2.2 _ hm.1.1) (G.C.2.2.2.2 _ hl) hm.1.2.2 hd, G.C.2.2.2.2 _ hm.2.1, G.C.2.2.2.2 _ hm.2.2⟩ ⟨zB.blind, by rw [hy]; exact lw_recvM G hX, fun U hU hW => ⟨rfl, by rw [hU]; exact hX.2.2.2.2.2.2, lw_zS G hX.2.2.2.1 hX.2.2.2.2.2.1 hS hU hW⟩⟩ rfl rfl hsz rfl (lv_room hrest) hdg hf
theorem lw_cS {st0 : List Value} {aa : Array Value} {post : Int32 → Prop} (hr : va_Run p l e room_1 s m #[Value.ref sb] below meth c H locs cells slots 0 0 (F0 m pc ls st0) rest (vp_Si post aa) (fun _ => False)) (kk : ∀ r : Int32, post r → W p l e room_1 s m #[Value.ref sb] below meth c H locs cells slots Q (F0 m (pc + 3) ls (.int r :: rest))) : W p l e room_1 s m #[Value.ref sb] below meth c H locs cells slots Q (F0 m pc ls st0) := by
  intro T hT X
  obtain ⟨v, st₀, t, T', L, h0, X', hL, e1, e2, ⟨r, hv, hp, hh⟩, st⟩ := hr T hT X
  cases hv
  have hL0 : L = [] := by
    cases L with
    | nil => rfl
    | cons q L => exact (hL q List.mem_cons_self).elim
  subst hL0
  rw [List.append_nil] at X'
  obtain ⟨t2, a1, b1⟩ := kk r hp T' (by rw [e1, hh, h0]) X'
  exact ⟨t2, st t2 a1, b1⟩
theorem lw_cX {st0 : List Value} {aa : Array Value} {post : Int32 → zV → Prop} (T : lwT D s K V a Km f A b n H locs) (hr : va_Run p l e room_1 s m #[Value.ref sb] below meth c H locs cells slots 0 0 (F0 m pc ls st0) rest (zQi D K post aa) (zA K)) (hp : ∀ r V', post r V' → zI K V') (kk : ∀ (r : Int32) (V' : zV) (H1 : Heap) (locs1 : List Loc), post r V' → lwT D s K V' a Km f A b n H1 locs1 → W p l e room_1 s m #[Value.ref sb] below meth c H1 locs1 cells slots Q (F0 m (pc + 3) ls (.int r :: rest))) : W p l e room_1 s m #[Value.ref sb] below meth c H locs cells slots Q (F0 m pc ls st0) := by
  obtain ⟨X, M, hd, hg, hS⟩ := T
  refine va_calli hr hS (fun q _ h => X.2.2.2.2.2.2.1 q h) (fun q h => X.2.2.2.2.2.2.1 q h) (fun r V' t H1 locs1 ht _ h hB _ hk1 hS1 => ?_)
  refine kk r V' H1 locs1 h ⟨⟨X.1, hp r V' h, X.2.2.1, X.2.2.2.1, X.2.2.2.2.1, X.2.2.2.2.2.1, X.2.2.2.2.2.2.1, by rw [← ht]; exact hB⟩, ⟨M.1, M.2.1, M.2.2.1, M.2.2.2.1, M.2.2.2.2.1, M.2.2.2.2.2.1, pl_keep M.2.2.2.2.2.2 (fun x hx => hk1 x (pl_lt M.2.2.2.2.2.2 hx) (fun h9 => hd x h9 hx))⟩, hd, hg, hS1⟩
theorem lw_cM0 {st0 : List Value} {aa : Array Value} {post : Int32 → (Nat → Int32) → (Nat → Nat → Int32) → Prop} (X : lwX D s K V a H) (M : lwM D s Km f A b n H) (hd : ∀ x ∈ zl K, x ∉ zl Km) (hS : va_S (lwN s) s.heap H locs) (hr : va_Run p l e room_1 s m #[Value.ref sb] below meth c H locs cells slots 0 0 (F0 m pc ls st0) rest (mQi D Km post aa) (zA Km)) (hp : ∀ r f' A', post r f' A' → mT f' A' ∧ okk (n + 1) f' A') (kk : ∀ (r : Int32) (f' : Nat → Int32) (A' : Nat → Nat → Int32) (H1 : Heap) (locs1 : List Loc), post r f' A' → lwX D s K V a H1 → lwM D s Km f' A' b (n + 1) H1 → va_S (lwN s) s.heap H1 locs1 → W p l e room_1 s m #[Value.ref sb] below meth c H1 locs1 cells slots Q (F0 m (pc + 3) ls (.int r :: rest))) : W p l e room_1 s m #[Value.ref sb] below meth c H locs cells slots Q (F0 m pc ls st0) := by
  refine va_calli hr hS (fun q _ h => M.2.2.2.2.2.1 q h) (fun q h => M.2.2.2.2.2.1 q h) (fun r u t H1 locs1 ht _ h hB _ hk1 hS1 => ?_)
  obtain ⟨h1, h2⟩ := hp r u.1 u.2 h
  exact kk r u.1 u.2 H1 locs1 h ⟨X.1, X.2.1, X.2.2.1, X.2.2.2.1, X.2.2.2.2.1, X.2.2.2.2.2.1, X.2.2.2.2.2.2.1, pl_keep X.2.2.2.2.2.2.2 (fun x hx => hk1 x (pl_lt X.2.2.2.2.2.2.2 hx) (fun h9 => hd x hx h9))⟩ ⟨M.1, h1, h2, M.2.2.2.1, M.2.2.2.2.1, M.2.2.2.2.2.1, by rw [← ht]; exact hB⟩ hS1
theorem lw_cM {st0 : List Value} {aa : Array Value} {post : Int32 → (Nat → Int32) → (Nat → Nat → Int32) → Prop} (T : lwT D s K V a Km f A b n H locs) (hr : va_Run p l e room_1 s m #[Value.ref sb] below meth c H locs cells slots 0 0 (F0 m pc ls st0) rest (mQi D Km post aa) (zA Km)) (hp : ∀ r f' A', post r f' A' → mT f' A' ∧ okk (n + 1) f' A' ∧ A' 43 = A 43) (kk : ∀ (r : Int32) (f' : Nat → Int32) (A' : Nat → Nat → Int32) (H1 : Heap) (locs1 : List Loc), post r f' A' → lwT D s K V a Km f' A' b (n + 1) H1 locs1 → W p l e room_1 s m #[Value.ref sb] below meth c H1 locs1 cells slots Q (F0 m (pc + 3) ls (.int r :: rest))) : W p l e room_1 s m #[Value.ref sb] below meth c H locs cells slots Q (F0 m pc ls st0) :=
  lw_cM0 T.1 T.2.1 T.2.2.1 T.2.2.2.2 hr (fun r f' A' h => ⟨(hp r f' A' h).1, (hp r f' A' h).2.1⟩) (fun r f' A' H1 locs1 h X M hS => kk r f' A' H1 locs1 h ⟨X, M, T.2.2.1, fun j hj => by rw [(hp r f' A' h).2.2]; exact T.2.2.2.1 j hj, hS⟩)
theorem lwT.up (T : lwT D s K V a Km f A b n H locs) : lwT D s K V a Km f A b (n + 1) H locs := ⟨T.1, ⟨T.2.1.1, T.2.1.2.1, T.2.1.2.2.1.up, T.2.1.2.2.2⟩, T.2.2⟩
/-- an int of the script -/
theorem lw_arg (G : lwG p s m meth c sb L xs D) (hS : va_S (lwN s) s.heap H locs) {N k : Nat} {i kv : Int32} {v1 v2 : Nat} (hl : lv_has ls 4 [(3, .int i), (2, .ref v2), (1, .ref v1), (0, .ref sb)]) (hi : i.toInt = 5 * (N : Int)) (hL : 5 * N + 5 ≤ L) {n0 : Int} (hv : Int32.ofInt n0 = kv) (hk : kv.toInt = (k : Int)) (hk5 : k < 5) (d0 : decode code pc = .ok (.aload_n 0, 1)) (d1 : decode code (pc + 1) = .ok (.iload_n 3, 1)) (d2 : decode code (pc + 2) = .ok (.iconst n0, 1)) (d3 : decode code (pc + 3) = .ok (.iadd, 1)) (d4 : decode code (pc + 4) = .ok (.iaload, 1)) (kk : W p l e room_1 s m #[Value.ref sb] below meth c H locs cells slots Q (F0 m (pc + 5) ls (.int (xs (5 * N + k)) :: rest))) : W p l e room_1 s m #[Value.ref sb] below meth c H locs cells slots Q (F0 m pc ls rest) := by
  obtain ⟨hx, hb, hr, hml, hown, hts, hX, hbl, hlocks, hgv⟩ := G.1
  have hL2 := G.2.1
  refine lv_aload_n hx hb d0 rfl (lv_at hl 3 rfl) ?_
  refine lv_iload_n hx hb d1 rfl (lv_at hl 0 rfl) ?_
  refine lv_iconst hx hb d2 hv ?_
  refine lv_iadd hx hb d3 ?_
  refine lv_topi (fun y ey => ?_)
  have hy := z_add ey rfl hk
  have hy2 : y.toInt = 5 * (N : Int) + (k : Int) := by omega
  have e : y.toNatClampNeg = 5 * N + k := by show y.toInt.toNat = _; omega
  refine va_sld hx hb hX hbl (Nat.not_le.mpr hbl) hS (vp_in_iff.mpr (by omega)) d4 ?_
  rw [e]; exact kk
end LW
