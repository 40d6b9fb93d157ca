/-! making: pools that grow -/
abbrev rmc (d mc ms : Nat) : Room := { frames := d, cells := mc, slots := ms, locals := 64 * d }
theorem ap_l {X Y : va_W} {k : Nat} {q : Nat × va_E} (hk : X[k]? = some q) : (X ++ Y)[k]? = some q := by rw [List.getElem?_append_left (List.getElem?_eq_some_iff.mp hk).1]; exact hk
theorem ap_r {X Y : va_W} {k : Nat} {q : Nat × va_E} (hk : Y[k]? = some q) : (X ++ Y)[X.length + k]? = some q := by rw [List.getElem?_append_right (Nat.le_add_right _ _), Nat.add_sub_cancel_left]; exact hk
theorem ap_Pl {D : va_G} {cl : List vw_C} {X Y : va_W} {H : Heap} (h : va_P D cl (X ++ Y) H) : va_P D cl X H := fun k q hk => h k q (ap_l hk)
theorem ap_Pr {D : va_G} {cl : List vw_C} {X Y : va_W} {H : Heap} (h : va_P D cl (X ++ Y) H) : va_P D cl Y H := fun k q hk => h (X.length + k) q (ap_r hk)
theorem ap_Dl {A : Nat → Prop} {X Y : va_W} (h : va_D A (X ++ Y)) : va_D A X := ⟨fun i j p q hi hj e => h.1 i j p q (ap_l hi) (ap_l hj) e, fun k q hk => h.2 k q (ap_l hk)⟩
theorem ap_Dr {A : Nat → Prop} {X Y : va_W} (h : va_D A (X ++ Y)) : va_D A Y := ⟨fun i j p q hi hj e => by have := h.1 _ _ p q (ap_r hi) (ap_r hj) e; omega, fun k q hk => h.2 _ q (ap_r hk)⟩
theorem ap_ne {A : Nat → Prop} {X Y : va_W} (h : va_D A (X ++ Y)) {i j : Nat} {p q : Nat × va_E} (hi : X[i]? = some p) (hj : Y[j]? = some q) : p.1 ≠ q.1 := fun e => by have h1 := h.1 _ _ p q (ap_l hi) (ap_r hj) e; have h2 := (List.getElem?_eq_some_iff.mp hi).1; omega
theorem pl_mem {L : List Nat} {f : Nat → va_E} {j : Nat} {q : Nat × va_E} (h : (va_pl L f)[j]? = some q) : q.1 ∈ L := by
  simp only [va_pl, List.getElem?_map] at h
  cases hx : L[j]? with
  | none => rw [hx] at h; cases h
  | some x => rw [hx] at h; cases h; exact List.mem_of_getElem? hx
def zat (K : zK) (a k n : Nat) : Prop := a ∈ zl K ∧ zk K a = k ∧ (n ≠ 0 → zn K a = n)
def zLe (K K' : zK) : Prop := ∀ a k n, zat K a k n → zat K' a k n
def zats (K : zK) (L : List (Nat × Nat × Nat)) : Prop := ∀ q ∈ L, zat K q.1 q.2.1 q.2.2
theorem zats.nil {K : zK} : zats K [] := fun _ h => by cases h
theorem zats.le {K K' : zK} {L : List (Nat × Nat × Nat)} (h : zats K L) (hl : zLe K K') : zats K' L := fun q hq => hl _ _ _ (h q hq)
theorem zats.add {K K' : zK} {L : List (Nat × Nat × Nat)} {a k n : Nat} (h : zats K L) (hl : zLe K K') (ha : zat K' a k n) : zats K' ((a, k, n) :: L) := fun q hq => by
  rcases List.mem_cons.mp hq with rfl | hq
  · exact ha
  · exact hl _ _ _ (h q hq)
theorem zats.get {K : zK} {L : List (Nat × Nat × Nat)} (h : zats K L) (i : Nat) {a k n : Nat} (hi : L[i]? = some (a, k, n)) : zat K a k n := h _ (List.mem_of_getElem? hi)
def zAr (K : zK) (U : State) : Prop := ∀ a ∈ zl K, ∀ ty, zty (zk K a) = some ty → ArrOfT U (zi K a) ty ∧ va_RA U (zi K a) ty
theorem zAr.moved {K : zK} {u U : State} (hvm : u.vm.Alike U.vm) (h : zAr K u) : zAr K U := fun a ha ty e => ⟨arrOfT_moved hvm (h a ha ty e).1, (h a ha ty e).2.moved hvm⟩
/-- a pool that leads nowhere else, with no games -/
def zCo (o : Option Nat) (K : zK) (V : zV) : Prop := zOk K ∧ zI K V ∧ (zg K = fun _ => none) ∧ ∀ a ∈ zl K, zk K a = 22 → o = some a
abbrev zC (K : zK) (V : zV) : Prop := zCo none K V
def kU (K K1 : zK) : zK := (fun a => if a ∈ zl K1 then zi K1 a else zi K a, zl K ++ zl K1, fun a => if a ∈ zl K1 then zk K1 a else zk K a, fun a => if a ∈ zl K1 then zn K1 a else zn K a, fun a => if a ∈ zl K1 then zr K1 a else zr K a, fun a => if a ∈ zl K1 then zt K1 a else zt K a, fun _ => none)
def vU (K1 : zK) (V V1 : zV) : zV := (fun a => if a ∈ zl K1 then V1.1 a else V.1 a, fun a => if a ∈ zl K1 then V1.2.1 a else V.2.1 a, fun a => if a ∈ zl K1 then V1.2.2 a else V.2.2 a)
section KU
variable {K K1 : zK} {V V1 : zV} {a k n : Nat}
theorem kU_in (h : a ∈ zl K1) : zi (kU K K1) a = zi K1 a ∧ zk (kU K K1) a = zk K1 a ∧ zn (kU K K1) a = zn K1 a ∧ zr (kU K K1) a = zr K1 a ∧ zt (kU K K1) a = zt K1 a := ⟨if_pos h, if_pos h, if_pos h, if_pos h, if_pos h⟩
theorem kU_no (h : a ∉ zl K1) : zi (kU K K1) a = zi K a ∧ zk (kU K K1) a = zk K a ∧ zn (kU K K1) a = zn K a ∧ zr (kU K K1) a = zr K a ∧ zt (kU K K1) a = zt K a := ⟨if_neg h, if_neg h, if_neg h, if_neg h, if_neg h⟩
theorem vU_in (h : a ∈ zl K1) : (vU K1 V V1).1 a = V1.1 a ∧ (vU K1 V V1).2.1 a = V1.2.1 a ∧ (vU K1 V V1).2.2 a = V1.2.2 a := ⟨if_pos h, if_pos h, if_pos h⟩
theorem vU_no (h : a ∉ zl K1) : (vU K1 V V1).1 a = V.1 a ∧ (vU K1 V V1).2.1 a = V.2.1 a ∧ (vU K1 V V1).2.2 a = V.2.2 a := ⟨if_neg h, if_neg h, if_neg h⟩
/-- what lies at an address hangs on these alone -/
theorem zF_eq {K K' : zK} {V V' : zV} {a a' : Nat} (h1 : zi K' a' = zi K a) (h2 : zk K' a' = zk K a) (h3 : zn K' a' = zn K a) (h4 : zr K' a' = zr K a) (h5 : zt K' a' = zt K a) (h6 : V'.1 a' = V.1 a) (h7 : V'.2.1 a' = V.2.1 a) (h8 : V'.2.2 a' = V.2.2 a) (h9 : zg K' = zg K) : zF K' V' a' = zF K V a := by
  simp only [zF, h1, h2, h3, h4, h5, h6, h7, h8, h9]
theorem kU_Fin (h : a ∈ zl K1) (hg : zg K1 = fun _ => none) : zF (kU K K1) (vU K1 V V1) a = zF K1 V1 a :=
  zF_eq (kU_in h).1 (kU_in h).2.1 (kU_in h).2.2.1 (kU_in h).2.2.2.1 (kU_in h).2.2.2.2 (vU_in h).1 (vU_in h).2.1 (vU_in h).2.2 hg.symm
theorem kU_Fno (h : a ∉ zl K1) (hg : zg K = fun _ => none) : zF (kU K K1) (vU K1 V V1) a = zF K V a :=
  zF_eq (kU_no h).1 (kU_no h).2.1 (kU_no h).2.2.1 (kU_no h).2.2.2.1 (kU_no h).2.2.2.2 (vU_no h).1 (vU_no h).2.1 (vU_no h).2.2 hg.symm
theorem kU_le (hd : ∀ a ∈ zl K, a ∉ zl K1) : zLe K (kU K K1) := fun a k n h => ⟨List.mem_append_left _ h.1, by rw [(kU_no (hd a h.1)).2.1]; exact h.2.1, by rw [(kU_no (hd a h.1)).2.2.1]; exact h.2.2⟩
theorem kU_le1 : zLe K1 (kU K K1) := fun a k n h => ⟨List.mem_append_right _ h.1, by rw [(kU_in h.1).2.1]; exact h.2.1, by rw [(kU_in h.1).2.2.1]; exact h.2.2⟩
theorem zLe.tf {K K' : zK} (h : zLe K K') {g : Nat} (hg : g ∈ zl K ∧ fol K g) : g ∈ zl K' ∧ fol K' g := by
  have h1 := h g (zk K g) 0 ⟨hg.1, rfl, fun h => absurd rfl h⟩
  exact ⟨h1.1, by have h2 := hg.2; unfold fol at *; rw [h1.2.1]; exact h2⟩
theorem zLe.tg {K K' : zK} (h : zLe K K') {g : Nat} (hg : g ∈ zl K ∧ gam K g) : g ∈ zl K' ∧ gam K' g := by
  have h1 := h g (zk K g) 0 ⟨hg.1, rfl, fun h => absurd rfl h⟩
  exact ⟨h1.1, by have h2 := hg.2; unfold gam fol at *; rw [h1.2.1]; exact h2⟩
theorem zLe.tk {K K' : zK} (h : zLe K K') {g k : Nat} (hg : g ∈ zl K ∧ zk K g = k) : g ∈ zl K' ∧ zk K' g = k := by
  have h1 := h g k 0 ⟨hg.1, hg.2, fun h => absurd rfl h⟩
  exact ⟨h1.1, h1.2.1⟩
theorem kU_ok (h : zOk K) (h1 : zOk K1) (hd : ∀ a ∈ zl K, a ∉ zl K1) : zOk (kU K K1) := by
  have L := kU_le (K1 := K1) hd
  have L1 := kU_le1 (K := K) (K1 := K1)
  have N : (zl K ++ zl K1).Nodup := by
    rw [List.nodup_append]
    exact ⟨h.1, h1.1, fun a ha b hb e => hd a ha (e ▸ hb)⟩
  refine ⟨N, fun a ha j k n hx => ?_, fun a ha => ?_, fun a ha hk j hj => ?_, fun a ha hk j hj => ?_, fun a ha hk j hj => ?_, (fun j hj g hg => by cases hg)⟩ <;> by_cases c : a ∈ zl K1
  · rw [(kU_in c).2.1] at hx; rw [(kU_in c).2.2.2.1]; exact L1 _ _ _ (h1.2.1 a c j k n hx)
  · have ha : a ∈ zl K := (List.mem_append.mp ha).resolve_right c
    rw [(kU_no c).2.1] at hx; rw [(kU_no c).2.2.2.1]; exact L _ _ _ (h.2.1 a ha j k n hx)
  · rw [(kU_in c).2.2.1]; exact h1.2.2.1 a c
  · have ha : a ∈ zl K := (List.mem_append.mp ha).resolve_right c
    rw [(kU_no c).2.2.1]; exact h.2.2.1 a ha
  · rw [(kU_in c).2.1] at hk; rw [(kU_in c).2.2.1] at hj; rw [(kU_in c).2.2.2.1]; exact L1.tk (h1.2.2.2.1 a c hk j hj)
  · have ha : a ∈ zl K := (List.mem_append.mp ha).resolve_right c
    rw [(kU_no c).2.1] at hk; rw [(kU_no c).2.2.1] at hj; rw [(kU_no c).2.2.2.1]; exact L.tk (h.2.2.2.1 a ha hk j hj)
  · rw [(kU_in c).2.1] at hk; rw [(kU_in c).2.2.1] at hj; rw [(kU_in c).2.2.2.1]; exact L1.tk (h1.2.2.2.2.1 a c hk j hj)
  · have ha : a ∈ zl K := (List.mem_append.mp ha).resolve_right c
    rw [(kU_no c).2.1] at hk; rw [(kU_no c).2.2.1] at hj; rw [(kU_no c).2.2.2.1]; exact L.tk (h.2.2.2.2.1 a ha hk j hj)
  · rw [(kU_in c).2.1] at hk; rw [(kU_in c).2.2.2.1]; exact L1.tf (h1.2.2.2.2.2.1 a c hk j hj)
  · have ha : a ∈ zl K := (List.mem_append.mp ha).resolve_right c
    rw [(kU_no c).2.1] at hk; rw [(kU_no c).2.2.2.1]; exact L.tf (h.2.2.2.2.2.1 a ha hk j hj)
theorem kU_I (h : zI K V) (h1 : zI K1 V1) (hd : ∀ a ∈ zl K, a ∉ zl K1) : zI (kU K K1) (vU K1 V V1) := by
  have L := kU_le (K1 := K1) hd
  have L1 := kU_le1 (K := K) (K1 := K1)
  refine ⟨fun a ha hk => ?_, fun a ha hk => ?_, fun a ha hk j hj => ?_, fun a ha hk g hg => ?_, fun a ha hk g hg => ?_, fun a ha hk g hg => ?_⟩ <;> by_cases c : a ∈ zl K1
  · rw [(kU_in c).2.1] at hk; rw [(vU_in c).1]; exact h1.1 a c hk
  · have ha : a ∈ zl K := (List.mem_append.mp ha).resolve_right c
    rw [(kU_no c).2.1] at hk; rw [(vU_no c).1]; exact h.1 a ha hk
  · rw [(kU_in c).2.1] at hk; rw [(vU_in c).1]; exact h1.2.1 a c hk
  · have ha : a ∈ zl K := (List.mem_append.mp ha).resolve_right c
    rw [(kU_no c).2.1] at hk; rw [(vU_no c).1]; exact h.2.1 a ha hk
  · rw [(kU_in c).2.1] at hk; rw [(kU_in c).2.2.1] at hj; rw [(vU_in c).2.1]; exact h1.2.2.1 a c hk j hj
  · have ha : a ∈ zl K := (List.mem_append.mp ha).resolve_right c
    rw [(kU_no c).2.1] at hk; rw [(kU_no c).2.2.1] at hj; rw [(vU_no c).2.1]; exact h.2.2.1 a ha hk j hj
  · rw [(kU_in c).2.1] at hk; rw [(vU_in c).2.2] at hg; exact L1.tg (h1.2.2.2.1 a c hk g hg)
  · have ha : a ∈ zl K := (List.mem_append.mp ha).resolve_right c
    rw [(kU_no c).2.1] at hk; rw [(vU_no c).2.2] at hg; exact L.tg (h.2.2.2.1 a ha hk g hg)
  · rw [(kU_in c).2.1] at hk; rw [(vU_in c).2.2] at hg; exact L1.tk (h1.2.2.2.2.1 a c hk g hg)
  · have ha : a ∈ zl K := (List.mem_append.mp ha).resolve_right c
    rw [(kU_no c).2.1] at hk; rw [(vU_no c).2.2] at hg; exact L.tk (h.2.2.2.2.1 a ha hk g hg)
  · rw [(kU_in c).2.1] at hk; rw [(vU_in c).2.2] at hg ⊢
    obtain ⟨g1, g2, g3⟩ := h1.2.2.2.2.2 a c hk g hg
    obtain ⟨g4, g5⟩ := L1.tf ⟨g1, g2⟩
    exact ⟨g4, g5, g3⟩
  · have ha : a ∈ zl K := (List.mem_append.mp ha).resolve_right c
    rw [(kU_no c).2.1] at hk; rw [(vU_no c).2.2] at hg ⊢
    obtain ⟨g1, g2, g3⟩ := h.2.2.2.2.2 a ha hk g hg
    obtain ⟨g4, g5⟩ := L.tf ⟨g1, g2⟩
    exact ⟨g4, g5, g3⟩
theorem kU_Ar {s : State} (h : zAr K s) (h1 : zAr K1 s) : zAr (kU K K1) s := fun a ha ty e => by
  by_cases c : a ∈ zl K1
  · rw [(kU_in c).2.1] at e; rw [(kU_in c).1]; exact h1 a c ty e
  · rw [(kU_no c).2.1] at e; rw [(kU_no c).1]; exact h a ((List.mem_append.mp ha).resolve_right c) ty e
theorem zW_U (hd : ∀ a ∈ zl K, a ∉ zl K1) (hg : zg K = fun _ => none) (hg1 : zg K1 = fun _ => none) : zW K V ++ zW K1 V1 = zW (kU K K1) (vU K1 V V1) := by
  show (zl K).map (fun a => (a, zF K V a)) ++ (zl K1).map (fun a => (a, zF K1 V1 a)) = (zl K ++ zl K1).map (fun a => (a, zF (kU K K1) (vU K1 V V1) a))
  rw [List.map_append]
  congr 1
  · exact List.map_congr_left (fun a ha => by rw [kU_Fno (hd a ha) hg])
  · exact List.map_congr_left (fun a ha => by rw [kU_Fin ha hg1])
theorem cjoin {A : Nat → Prop} {D : va_G} {X : va_W} {H : Heap} {s : State} {o : Option Nat} (hC : zCo o K V) (hC1 : zC K1 V1) (hP : va_P D vwCl (X ++ zW K V) H) (hP1 : va_P D vwCl (zW K1 V1) H) (hD : va_D A (X ++ zW K V)) (hN : ∀ a ∈ zl K1, A a ∧ ∀ (i : Nat) (q : Nat × va_E), (X ++ zW K V)[i]? = some q → q.1 ≠ a) (hAr : zAr K s) (hAr1 : zAr K1 s) : zCo o (kU K K1) (vU K1 V V1) ∧ va_P D vwCl (X ++ zW (kU K K1) (vU K1 V V1)) H ∧ va_D A (X ++ zW (kU K K1) (vU K1 V V1)) ∧ zAr (kU K K1) s ∧ zLe K (kU K K1) ∧ zLe K1 (kU K K1) := by
  have hd : ∀ a ∈ zl K, a ∉ zl K1 := fun a ha ha1 => by
    obtain ⟨k, hk⟩ := zl_at (f := zF K V) ha
    exact (hN a ha1).2 _ _ (ap_r hk) rfl
  refine ⟨⟨kU_ok hC.1 hC1.1 hd, kU_I hC.2.1 hC1.2.1 hd, rfl, fun a ha h9 => ?_⟩, ?_, ?_, kU_Ar hAr hAr1, kU_le hd, kU_le1⟩
  · by_cases c : a ∈ zl K1
    · rw [(kU_in c).2.1] at h9; exact absurd (hC1.2.2.2 a c h9) (by simp)
    · rw [(kU_no c).2.1] at h9; exact hC.2.2.2 a ((List.mem_append.mp ha).resolve_right c) h9
  · rw [← zW_U hd hC.2.2.1 hC1.2.2.1, ← List.append_assoc]; exact hP.app hP1
  · rw [← zW_U hd hC.2.2.1 hC1.2.2.1, ← List.append_assoc]
    exact va_D.app hD (zl_D hC1.1.1 (fun a ha => (hN a ha).1)) (fun i j p q hi hj => (hN q.1 (pl_mem hj)).2 i p hi)
end KU
/-- one row of numbers -/
def kA (q k n : Nat) (cA : ClassId) : zK := (fun _ => cA, [q], fun _ => k, fun _ => n, fun _ _ => 0, fun _ => 0, fun _ => none)
def vA (f : Nat → Int32) : zV := (fun _ _ => 0, fun _ => f, fun _ _ => none)
def isP (k : Nat) : Bool := decide (20 ≤ k ∧ k ≠ 22 ∧ k ≠ 23 ∧ k ≠ 24)
theorem zF_p {K : zK} {V : zV} {a k : Nat} (h : zk K a = k) (hk : isP k = true) : zF K V a = .inl (zi K a, zn K a, .inl (V.2.1 a)) := by
  have h2 := of_decide_eq_true hk
  unfold zF
  rw [h]
  repeat rw [if_neg (by omega)]
theorem zX_p {k j : Nat} (hk : isP k = true) : zX k j = none := by
  unfold zX
  split <;> first | rfl | exact absurd hk (by decide)
theorem kA_C {q k n : Nat} {cA : ClassId} {f : Nat → Int32} (hk : isP k = true) (hn : n < 2147483648) (h25 : k = 25 → ∀ j, j < n → 0 ≤ (f j).toInt ∧ (f j).toInt ≤ 7) : zC (kA q k n cA) (vA f) := by
  have h2 := of_decide_eq_true hk
  have e : ∀ a, zk (kA q k n cA) a = k := fun _ => rfl
  refine ⟨⟨List.nodup_cons.mpr ⟨List.not_mem_nil, List.nodup_nil⟩, fun a ha j k' n' hx => ?_, fun a ha => hn, fun a ha h => ?_, fun a ha h => ?_, fun a ha h => ?_, (fun j hj g hg => by cases hg)⟩, ⟨fun a ha h => ?_, fun a ha h => ?_, fun a ha h j hj => h25 h j hj, fun a ha h => ?_, fun a ha h => ?_, fun a ha h => ?_⟩, rfl, fun a ha h => ?_⟩
  · rw [e, zX_p hk] at hx; cases hx
  all_goals (rw [e] at h; omega)
theorem cnew {A : Nat → Prop} {D : va_G} {X : va_W} {K : zK} {V : zV} {H : Heap} {s : State} {q k n : Nat} {cA : ClassId} {ty : FieldType} {f : Nat → Int32} {o : Option Nat} (hC : zCo o K V) (hk : isP k = true) (hn : n < 2147483648) (h25 : k = 25 → ∀ j, j < n → 0 ≤ (f j).toInt ∧ (f j).toInt ≤ 7) (hty : zty k = some ty) (hP : va_P D vwCl ((X ++ zW K V) ++ [(q, .inl (cA, n, .inl f))]) H) (hD : va_D A ((X ++ zW K V) ++ [(q, .inl (cA, n, .inl f))])) (hAr : zAr K s) (hA1 : ArrOfT s cA ty ∧ va_RA s cA ty) : zCo o (kU K (kA q k n cA)) (vU (kA q k n cA) V (vA f)) ∧ va_P D vwCl (X ++ zW (kU K (kA q k n cA)) (vU (kA q k n cA) V (vA f))) H ∧ va_D A (X ++ zW (kU K (kA q k n cA)) (vU (kA q k n cA) V (vA f))) ∧ zAr (kU K (kA q k n cA)) s ∧ zLe K (kU K (kA q k n cA)) ∧ zat (kU K (kA q k n cA)) q k n := by
  have hW : zW (kA q k n cA) (vA f) = [(q, .inl (cA, n, .inl f))] := by
    show [(q, zF (kA q k n cA) (vA f) q)] = _
    rw [zF_p (K := kA q k n cA) (k := k) rfl hk]; rfl
  have hm : q ∈ zl (kA q k n cA) := List.mem_cons_self
  obtain ⟨h1, h2, h3, h4, h5, h6⟩ := cjoin hC (kA_C (q := q) (cA := cA) hk hn h25) (ap_Pl hP) (by rw [hW]; exact ap_Pr hP) (ap_Dl hD) (fun a ha => by
    obtain rfl : a = q := List.mem_singleton.mp ha
    exact ⟨(ap_Dr hD).2 0 _ rfl, fun i p hi => ap_ne hD hi (j := 0) rfl⟩) hAr (fun a ha ty' e => by
    rw [show zk (kA q k n cA) a = k from rfl, hty] at e
    cases e
    exact hA1)
  exact ⟨h1, h2, h3, h4, h5, h6 _ _ _ ⟨hm, rfl, fun _ => rfl⟩⟩
/-- an object, or a row of references, comes to the pool -/
def kP (K : zK) (h k n : Nat) (cA : ClassId) (r : Nat → Nat) (t : Int32) : zK := (va_up (zi K) h cA, zl K ++ [h], va_up (zk K) h k, va_up (zn K) h n, va_up (zr K) h r, va_up (zt K) h t, zg K)
def vP (V : zV) (h : Nat) (x : Nat → Int32) : zV := (va_up V.1 h x, V.2.1, va_up V.2.2 h (fun _ => none))
section KP
variable {K : zK} {V : zV} {h k n a : Nat} {cA : ClassId} {r : Nat → Nat} {t : Int32} {x : Nat → Int32}
theorem kP_at : zi (kP K h k n cA r t) h = cA ∧ zk (kP K h k n cA r t) h = k ∧ zn (kP K h k n cA r t) h = n ∧ zr (kP K h k n cA r t) h = r ∧ zt (kP K h k n cA r t) h = t := ⟨va_up_self _ _ _, va_up_self _ _ _, va_up_self _ _ _, va_up_self _ _ _, va_up_self _ _ _⟩
theorem kP_ne (e : a ≠ h) : zi (kP K h k n cA r t) a = zi K a ∧ zk (kP K h k n cA r t) a = zk K a ∧ zn (kP K h k n cA r t) a = zn K a ∧ zr (kP K h k n cA r t) a = zr K a ∧ zt (kP K h k n cA r t) a = zt K a := ⟨va_up_ne _ _ e, va_up_ne _ _ e, va_up_ne _ _ e, va_up_ne _ _ e, va_up_ne _ _ e⟩
theorem vP_at : (vP V h x).1 h = x ∧ (vP V h x).2.2 h = fun _ => none := ⟨va_up_self _ _ _, va_up_self _ _ _⟩
theorem vP_ne (e : a ≠ h) : (vP V h x).1 a = V.1 a ∧ (vP V h x).2.2 a = V.2.2 a := ⟨va_up_ne _ _ e, va_up_ne _ _ e⟩
theorem kP_le (hh : h ∉ zl K) : zLe K (kP K h k n cA r t) := fun a k' n' q => by
  have e : a ≠ h := fun e => hh (e ▸ q.1)
  exact ⟨List.mem_append_left _ q.1, by rw [(kP_ne e).2.1]; exact q.2.1, by rw [(kP_ne e).2.2.1]; exact q.2.2⟩
theorem kP_ok (hO : zOk K) (hh : h ∉ zl K) (hn : n < 2147483648) (h6 : k ≠ 6) (hR : ∀ j k' n', zX k j = some (k', n') → zat K (r j) k' n') (h23 : k = 23 → ∀ j, j < n → zat K (r j) 7 0) (h24 : k = 24 → ∀ j, j < n → zat K (r j) 8 0) : zOk (kP K h k n cA r t) := by
  have L := kP_le (k := k) (n := n) (cA := cA) (r := r) (t := t) hh
  have N : (zl K ++ [h]).Nodup := by
    rw [List.nodup_append]
    exact ⟨hO.1, List.nodup_cons.mpr ⟨List.not_mem_nil, List.nodup_nil⟩, fun a ha b hb e => hh (by rw [List.mem_singleton.mp hb] at e; exact e ▸ ha)⟩
  have M : ∀ a ∈ zl K ++ [h], a ≠ h → a ∈ zl K := fun a ha e => (List.mem_append.mp ha).resolve_right (fun q => e (List.mem_singleton.mp q))
  refine ⟨N, fun a ha j k' n' hx => ?_, fun a ha => ?_, fun a ha hk j hj => ?_, fun a ha hk j hj => ?_, fun a ha hk j hj => ?_, fun j hj g hg => L.tg (hO.2.2.2.2.2.2 j hj g hg)⟩ <;> by_cases c : a = h
  · subst c; rw [kP_at.2.1] at hx; rw [kP_at.2.2.2.1]; exact L _ _ _ (hR j k' n' hx)
  · rw [(kP_ne c).2.1] at hx; rw [(kP_ne c).2.2.2.1]; exact L _ _ _ (hO.2.1 a (M a ha c) j k' n' hx)
  · subst c; rw [kP_at.2.2.1]; exact hn
  · rw [(kP_ne c).2.2.1]; exact hO.2.2.1 a (M a ha c)
  · subst c; rw [kP_at.2.1] at hk; rw [kP_at.2.2.1] at hj; rw [kP_at.2.2.2.1]; exact L.tk ⟨(h23 hk j hj).1, (h23 hk j hj).2.1⟩
  · rw [(kP_ne c).2.1] at hk; rw [(kP_ne c).2.2.1] at hj; rw [(kP_ne c).2.2.2.1]; exact L.tk (hO.2.2.2.1 a (M a ha c) hk j hj)
  · subst c; rw [kP_at.2.1] at hk; rw [kP_at.2.2.1] at hj; rw [kP_at.2.2.2.1]; exact L.tk ⟨(h24 hk j hj).1, (h24 hk j hj).2.1⟩
  · rw [(kP_ne c).2.1] at hk; rw [(kP_ne c).2.2.1] at hj; rw [(kP_ne c).2.2.2.1]; exact L.tk (hO.2.2.2.2.1 a (M a ha c) hk j hj)
  · subst c; rw [kP_at.2.1] at hk; exact absurd hk h6
  · rw [(kP_ne c).2.1] at hk; rw [(kP_ne c).2.2.2.1]; exact L.tf (hO.2.2.2.2.2.1 a (M a ha c) hk j hj)
theorem kP_I (hI : zI K V) (hh : h ∉ zl K) (h25 : k ≠ 25) (hi1 : k = 1 → 0 ≤ (x 8).toInt ∧ (x 8).toInt ≤ 15) (hi2 : k = 2 → 0 ≤ (x 11).toInt ∧ (x 11).toInt ≤ 4) : zI (kP K h k n cA r t) (vP V h x) := by
  have L := kP_le (k := k) (n := n) (cA := cA) (r := r) (t := t) hh
  have M : ∀ a ∈ zl K ++ [h], a ≠ h → a ∈ zl K := fun a ha e => (List.mem_append.mp ha).resolve_right (fun q => e (List.mem_singleton.mp q))
  refine ⟨fun a ha hk => ?_, fun a ha hk => ?_, fun a ha hk j hj => ?_, fun a ha hk g hg => ?_, fun a ha hk g hg => ?_, fun a ha hk g hg => ?_⟩ <;> by_cases c : a = h
  · subst c; rw [kP_at.2.1] at hk; rw [vP_at.1]; exact hi1 hk
  · rw [(kP_ne c).2.1] at hk; rw [(vP_ne c).1]; exact hI.1 a (M a ha c) hk
  · subst c; rw [kP_at.2.1] at hk; rw [vP_at.1]; exact hi2 hk
  · rw [(kP_ne c).2.1] at hk; rw [(vP_ne c).1]; exact hI.2.1 a (M a ha c) hk
  · subst c; rw [kP_at.2.1] at hk; exact absurd hk h25
  · rw [(kP_ne c).2.1] at hk; rw [(kP_ne c).2.2.1] at hj; exact hI.2.2.1 a (M a ha c) hk j hj
  · subst c; rw [vP_at.2] at hg; cases hg
  · rw [(kP_ne c).2.1] at hk; rw [(vP_ne c).2] at hg; exact L.tg (hI.2.2.2.1 a (M a ha c) hk g hg)
  · subst c; rw [vP_at.2] at hg; cases hg
  · rw [(kP_ne c).2.1] at hk; rw [(vP_ne c).2] at hg; exact L.tk (hI.2.2.2.2.1 a (M a ha c) hk g hg)
  · subst c; rw [vP_at.2] at hg; cases hg
  · rw [(kP_ne c).2.1] at hk; rw [(vP_ne c).2] at hg ⊢
    obtain ⟨g1, g2, g3⟩ := hI.2.2.2.2.2 a (M a ha c) hk g hg
    obtain ⟨g4, g5⟩ := L.tf ⟨g1, g2⟩
    exact ⟨g4, g5, g3⟩
theorem kP_F (e : a ≠ h) : zF (kP K h k n cA r t) (vP V h x) a = zF K V a :=
  zF_eq (kP_ne e).1 (kP_ne e).2.1 (kP_ne e).2.2.1 (kP_ne e).2.2.2.1 (kP_ne e).2.2.2.2 (vP_ne e).1 rfl (vP_ne e).2 rfl
theorem cmid {D : va_G} {cl : List vw_C} {X Y : va_W} {e : va_E} {H : Heap} (h0 : va_P D cl ((X ++ [(h, e)]) ++ Y) H) : va_at D cl (h, e) H := (ap_Pr (ap_Pl h0)) 0 _ rfl
theorem cpush {A : Nat → Prop} {D : va_G} {X : va_W} {H : Heap} {s : State} {e : va_E} {o o' : Option Nat} (hC : zCo o K V) (h22 : (∀ a, o = some a → o' = some a) ∧ (k = 22 → o' = some h)) (hP : va_P D vwCl ((X ++ [(h, e)]) ++ zW K V) H) (hD : va_D A ((X ++ [(h, e)]) ++ zW K V)) (hat : va_at D vwCl (h, zF (kP K h k n cA r t) (vP V h x) h) H) (hn : n < 2147483648) (h6 : k ≠ 6 ∧ k ≠ 25) (hR : ∀ j k' n', zX k j = some (k', n') → zat K (r j) k' n') (h23 : k = 23 → ∀ j, j < n → zat K (r j) 7 0) (h24 : k = 24 → ∀ j, j < n → zat K (r j) 8 0) (hi1 : k = 1 → 0 ≤ (x 8).toInt ∧ (x 8).toInt ≤ 15) (hi2 : k = 2 → 0 ≤ (x 11).toInt ∧ (x 11).toInt ≤ 4) (hAr : zAr K s) (hA1 : ∀ ty, zty k = some ty → ArrOfT s cA ty ∧ va_RA s cA ty) : zCo o' (kP K h k n cA r t) (vP V h x) ∧ va_P D vwCl (X ++ zW (kP K h k n cA r t) (vP V h x)) H ∧ va_D A (X ++ zW (kP K h k n cA r t) (vP V h x)) ∧ zAr (kP K h k n cA r t) s ∧ zLe K (kP K h k n cA r t) ∧ zat (kP K h k n cA r t) h k n := by
  have hh : h ∉ zl K := fun hx => by
    obtain ⟨i, hi⟩ := zl_at (f := zF K V) hx
    exact ap_ne hD (ap_r (X := X) (k := 0) rfl) hi rfl
  have hW : zW (kP K h k n cA r t) (vP V h x) = zW K V ++ [(h, zF (kP K h k n cA r t) (vP V h x) h)] := by
    show (zl K ++ [h]).map (fun a => (a, zF (kP K h k n cA r t) (vP V h x) a)) = (zl K).map (fun a => (a, zF K V a)) ++ _
    rw [List.map_append]
    congr 1
    exact List.map_congr_left (fun a ha => by rw [kP_F (fun e9 : a = h => hh (by rw [← e9]; exact ha))])
  have hP2 := hP.swap
  have hD2 := hD.swap
  have hm : h ∈ zl (kP K h k n cA r t) := List.mem_append_right _ List.mem_cons_self
  refine ⟨⟨kP_ok hC.1 hh hn h6.1 hR h23 h24, kP_I hC.2.1 hh h6.2 hi1 hi2, hC.2.2.1, fun a ha h9 => ?_⟩, ?_, ?_, fun a ha ty e => ?_, kP_le hh, ⟨hm, kP_at.2.1, fun _ => kP_at.2.2.1⟩⟩
  · by_cases c : a = h
    · subst c; rw [kP_at.2.1] at h9; exact h22.2 h9
    · rw [(kP_ne c).2.1] at h9; exact h22.1 a (hC.2.2.2 a ((List.mem_append.mp ha).resolve_right (fun q => c (List.mem_singleton.mp q))) h9)
  · rw [hW, ← List.append_assoc]
    refine (ap_Pl hP2).app (fun i q hq => ?_)
    have hz : i < 1 := (List.getElem?_eq_some_iff.mp hq).1
    rw [show i = 0 by omega] at hq
    cases hq
    exact hat
  · rw [hW, ← List.append_assoc]
    refine va_D.app (ap_Dl hD2) ⟨fun i j p q hi hj _ => ?_, fun i q hq => ?_⟩ (fun i j p q hi hj => ?_)
    · have h1 : i < 1 := (List.getElem?_eq_some_iff.mp hi).1
      have h2 : j < 1 := (List.getElem?_eq_some_iff.mp hj).1
      omega
    · have hz : i < 1 := (List.getElem?_eq_some_iff.mp hq).1
      rw [show i = 0 by omega] at hq
      cases hq
      exact (ap_Dr hD2).2 0 (h, e) rfl
    · have hz : j < 1 := (List.getElem?_eq_some_iff.mp hj).1
      rw [show j = 0 by omega] at hj
      cases hj
      exact ap_ne hD2 hi (j := 0) (q := (h, e)) rfl
  · by_cases c : a = h
    · subst c; rw [kP_at.2.1] at e; rw [kP_at.1]; exact hA1 ty e
    · rw [(kP_ne c).2.1] at e; rw [(kP_ne c).1]; exact hAr a ((List.mem_append.mp ha).resolve_right (fun q => c (List.mem_singleton.mp q))) ty e
end KP
/-- a row of references, filled so far -/
def rfs (K : zK) (k : Nat) (f : Nat → Option Nat) (i : Nat) : Prop := ∀ j, j < i → ∃ v, f j = some v ∧ zat K v k 0
theorem rfs.nil {K : zK} {k : Nat} {f : Nat → Option Nat} : rfs K k f 0 := fun j h => absurd h (Nat.not_lt_zero j)
theorem rfs.le {K K' : zK} {k : Nat} {f : Nat → Option Nat} {i : Nat} (h : rfs K k f i) (hl : zLe K K') : rfs K' k f i := fun j hj => by
  obtain ⟨v, h1, h2⟩ := h j hj
  exact ⟨v, h1, hl _ _ _ h2⟩
theorem rfs.push {K : zK} {k : Nat} {f : Nat → Option Nat} {i v : Nat} (h : rfs K k f i) (hv : zat K v k 0) : rfs K k (va_up f i (some v)) (i + 1) := fun j hj => by
  by_cases e : j = i
  · subst e; exact ⟨v, va_up_self _ _ _, hv⟩
  · rw [va_up_ne _ _ e]; exact h j (by omega)
theorem rfs.z {K : zK} {k : Nat} {f : Nat → Option Nat} {i j : Nat} (h : rfs K k f i) (hj : j < i) : zat K ((f j).getD 0) k 0 := by
  obtain ⟨v, h1, h2⟩ := h j hj
  rw [h1]; exact h2
theorem rfs.cell {K : zK} {k : Nat} {f : Nat → Option Nat} {n : Nat} (h : rfs K k f n) (cA : ClassId) : vp_cell cA (n, .inr (.inr (.inr (.inr f)))) = vp_cell cA (n, .inr (.inr (.inr (.inr (fun j => some ((f j).getD 0)))))) := by
  rw [vp_cell_q, vp_cell_q]
  unfold arrV
  congr 2
  funext j
  obtain ⟨v, h1, h2⟩ := h j.val j.isLt
  show va_rf (f j.val) = va_rf (some ((f j.val).getD 0))
  rw [h1]; rfl
theorem cat {K : zK} {V : zV} {X : va_W} {v k n : Nat} (h : zat K v k n) : ∃ i : Nat, (X ++ zW K V)[i]? = some (v, zF K V v) := by
  obtain ⟨i, hi⟩ := zl_at (f := zF K V) h.1
  exact ⟨_, ap_r hi⟩
def zXt (U : State) : Prop := va_AO RX4 U ∧ va_AO RX8 U ∧ va_AO RX9 U ∧ va_Nw (.methodLinkNest RX9 46 yX1_init RX11) U
theorem zXt.warm {s U : State} (hW : s.WarmedH U.vm) (h : zXt s) : zXt U := ⟨va_AO.moved hW.alike h.1, va_AO.moved hW.alike h.2.1, va_AO.moved hW.alike h.2.2.1, va_Nw.warmM hW h.2.2.2⟩
def cP (D : va_G) (h0 sz : Nat) (e : va_E) (U : State) : Prop := U.heap.size = sz ∧ va_P D vwCl [(h0, e)] U.heap ∧ va_K D vwCl [] U ∧ zXt U
theorem cP.blind {D : va_G} {h0 sz : Nat} {e : va_E} {av : List Value} : FrameBlind (va_Pc av (cP D h0 sz e)) := by
  intro a U g mk ⟨h0, h1, hP, hK, q1, q2, q3, q4⟩
  exact ⟨h0, h1, hP, va_K.moved (u := U) (U := U.calling g mk a) (Vm.Alike.refl U.vm) hK, va_AO.moved (u := U) (U := U.calling g mk a) (Vm.Alike.refl U.vm) q1, va_AO.moved (u := U) (U := U.calling g mk a) (Vm.Alike.refl U.vm) q2, va_AO.moved (u := U) (U := U.calling g mk a) (Vm.Alike.refl U.vm) q3, va_Nw.same rfl rfl q4⟩
abbrev cQ (D : va_G) (k h0 sz : Nat) (e : va_E) : Array Value → State → Outcome → State → Prop := va_Qv (fun u : zK × zV => (∃ o, zCo o u.1 u.2 ∧ (k ≠ 10 → o = none) ∧ (k = 10 → o = some (zr u.1 h0 0))) ∧ zat u.1 h0 k 0) (fun u t => va_P D vwCl (zW u.1 u.2) t.heap ∧ zAr u.1 t ∧ ∀ a ∈ zl u.1, va_A [(h0, e)] sz a) (va_A [(h0, e)] sz)
section CC
variable {p : Program} {l : Launch} {e : Env} {R : Room} {s : State} {m : MethodId} {args : Array Value} {below : List Frame} {meth : Method} {c : Code} {H : Heap} {locs : List Loc} {cells slots mc ms : Nat} {Q : State → Prop}
variable {cc : ByteArray} {pc : Nat} {ls : Array Slot} {rest : List Value} {D : va_G} {K : zK} {V : zV} {q k nL index maxL n d : Nat} {own host : String} {A : Nat → Prop} {X : va_W} {el : va_E} {tys : List (ClassId × FieldType)} {y : MethodName} {bytes : ByteArray} {As : List Value}
theorem cfree (hD : va_D A ((X ++ zW K V) ++ [(q, el)])) (hS : va_S A s.heap H locs) (hA : ∀ x, s.heap.size ≤ x → A x) : ∀ x, va_A [(q, el)] H.size x → A x := fun x hx => by
  rcases hx with ⟨i, e1, hi⟩ | hx
  · have hz : i < 1 := (List.getElem?_eq_some_iff.mp hi).1
    rw [show i = 0 by omega] at hi
    cases hi
    exact (ap_Dr hD).2 0 _ rfl
  · exact hA x (Nat.le_trans hS.1 hx)
/-- behind a constructor's call -/
theorem cback {st0 : List Value} {aa : Array Value} (hC : zC K V) (hP : va_P D vwCl ((X ++ zW K V) ++ [(q, el)]) H) (hD : va_D A ((X ++ zW K V) ++ [(q, el)])) (hS : va_S A s.heap H locs) (hA : ∀ x, s.heap.size ≤ x → A x) (hAr : zAr K s) (hk10 : k ≠ 10) (hr : va_Run p l e R s m args below meth c H locs cells slots mc ms (F0 m pc ls st0) rest (cQ D k q H.size el aa) (va_A [(q, el)] H.size)) (kk : ∀ (K' : zK) (V' : zV) (H1 : Heap) (locs1 : List Loc), zC K' V' → va_P D vwCl (X ++ zW K' V') H1 → va_D A (X ++ zW K' V') → va_S A s.heap H1 locs1 → zAr K' s → zLe K K' → zat K' q k 0 → W p l e R s m args below meth c H1 locs1 (cells + mc) (slots + ms) Q (F0 m (pc + 3) ls rest)) : W p l e R s m args below meth c H locs cells slots Q (F0 m pc ls st0) := by
  have hF := cfree hD hS hA
  refine va_callv hr hS (fun x _ h => hF x h) hF (fun u t H1 locs1 ht hvm hw hB hz1 hk1 hS1 => ?_)
  obtain ⟨hP1, hAr1, hN⟩ := hB
  rw [ht] at hP1
  have hlt : ∀ (i : Nat) (x : Nat × va_E), (X ++ zW K V)[i]? = some x → x.1 < H.size ∧ ¬ va_A [(q, el)] H.size x.1 := fun i x hi => by
    have h1 := ((ap_Pl hP) i x hi).lt
    refine ⟨h1, fun h2 => ?_⟩
    rcases h2 with ⟨j, e1, hj⟩ | h2
    · have hz : j < 1 := (List.getElem?_eq_some_iff.mp hj).1
      rw [show j = 0 by omega] at hj
      cases hj
      exact ap_ne hD hi (j := 0) rfl rfl
    · omega
  obtain ⟨o1, g1, g2, -⟩ := hw.1
  rw [g2 hk10] at g1
  obtain ⟨h1, h2, h3, h4, h5, h6⟩ := cjoin hC g1 (fun i x hi => ((ap_Pl hP) i x hi).kept (hk1 x.1 (hlt i x hi).1 (hlt i x hi).2)) hP1 (ap_Dl hD) (fun a ha => ⟨hF a (hN a ha), fun i x hi e1 => (hlt i x hi).2 (e1 ▸ hN a ha)⟩) hAr (hAr1.moved hvm.symm)
  exact kk _ _ H1 locs1 h1 h2 h3 hS1 h4 h5 (h6 _ _ _ hw.2)
abbrev zmC (y : MethodName) (bytes : ByteArray) (maxL : Nat) (n : Nat) : Prop := zm y bytes maxL none n ∧ (.instanceMethod y : Cond) ∈ zw ∧ y.name = "<init>"
theorem ccall (C : CallFix p m c cc nL s args zw own) (hM : Met l y (zc y bytes maxL none) (rmc d mc ms) (va_Pc (.ref q :: As) (cP D q H.size el)) (cQ D k q H.size el) mc ms (va_A [(q, el)] H.size)) (hk10 : k ≠ 10) (hm : zmC y bytes maxL As.length) (hl : (.methodLink own index y : Cond) ∈ zw) (hd : d + 1 ≤ R.frames ∧ 8 + (maxL + 11) + 64 * d ≤ R.locals) (hf : cells + mc ≤ R.cells ∧ slots + ms ≤ R.slots) (hsz : ls.size = nL) (hrest : (rest.map fun v => v.category).sum ≤ 8) (hdg : decode cc pc = .ok (.invokespecial index, 3)) (hC : zC K V) (hP : va_P D vwCl ((X ++ zW K V) ++ [(q, el)]) H) (hD : va_D A ((X ++ zW K V) ++ [(q, el)])) (hS : va_S A s.heap H locs) (hA : ∀ x, s.heap.size ≤ x → A x) (hAr : zAr K s) (hK : va_K D vwCl tys s) (hE : zXt s) (kk : ∀ (K' : zK) (V' : zV) (H1 : Heap) (locs1 : List Loc), zC K' V' → va_P D vwCl (X ++ zW K' V') H1 → va_D A (X ++ zW K' V') → va_S A s.heap H1 locs1 → zAr K' s → zLe K K' → zat K' q k 0 → W p l e R s m args below meth c H1 locs1 (cells + mc) (slots + ms) Q (F0 m (pc + 3) ls rest)) : W p l e R s m args below meth c H locs cells slots Q (F0 m pc ls (As.reverse ++ .ref q :: rest)) :=
  cback hC hP hD hS hA hAr hk10 (va_runI C hM ⟨callB_of As.length C.2.2.2.2 (zGc hm.1.2.1) rfl rfl rfl (C.2.2.2.2 _ hm.1.1) (C.2.2.2.2 _ hl) hm.1.2.2 hd, hm.2.2, C.2.2.2.2 _ hm.2.1⟩ ⟨cP.blind, fun U hU hW => ⟨rfl, by rw [hU], by rw [hU]; exact ap_Pr hP, va_K.moved hW.alike ⟨hK.1, fun k q h => by simp at h⟩, hE.warm hW⟩⟩ rfl rfl hsz rfl (lv_room hrest) hdg hf) kk
theorem ccallN (C : CallFix p m c cc nL s args zw own) (hM : Met l y (zc y bytes maxL none) (rmc d mc ms) (va_Pc (.ref q :: As) (cP D q H.size el)) (cQ D k q H.size el) mc ms (va_A [(q, el)] H.size)) (hk10 : k ≠ 10) (hm : zmC y bytes maxL As.length) (hl : va_Nw (.methodLinkNest own index y host) s) (hd : d + 1 ≤ R.frames ∧ 8 + (maxL + 11) + 64 * d ≤ R.locals) (hf : cells + mc ≤ R.cells ∧ slots + ms ≤ R.slots) (hsz : ls.size = nL) (hrest : (rest.map fun v => v.category).sum ≤ 8) (hdg : decode cc pc = .ok (.invokespecial index, 3)) (hC : zC K V) (hP : va_P D vwCl ((X ++ zW K V) ++ [(q, el)]) H) (hD : va_D A ((X ++ zW K V) ++ [(q, el)])) (hS : va_S A s.heap H locs) (hA : ∀ x, s.heap.size ≤ x → A x) (hAr : zAr K s) (hK : va_K D vwCl tys s) (hE : zXt s) (kk : ∀ (K' : zK) (V' : zV) (H1 : Heap) (locs1 : List Loc), zC K' V' → va_P D vwCl (X ++ zW K' V') H1 → va_D A (X ++ zW K' V') → va_S A s.heap H1 locs1 → zAr K' s → zLe K K' → zat K' q k 0 → W p l e R s m args below meth c H1 locs1 (cells + mc) (slots + ms) Q (F0 m (pc + 3) ls rest)) : W p l e R s m args below meth c H locs cells slots Q (F0 m pc ls (As.reverse ++ .ref q :: rest)) :=
  cback hC hP hD hS hA hAr hk10 (va_runIN C hM ⟨va_cnB As.length C.2.2.2.2 (zGc hm.1.2.1) rfl rfl rfl hl (C.2.2.2.2 _ hm.1.1) hm.1.2.2 hd, hm.2.2, C.2.2.2.2 _ hm.2.1⟩ ⟨cP.blind, fun U hU hW => ⟨rfl, by rw [hU], by rw [hU]; exact ap_Pr hP, va_K.moved hW.alike ⟨hK.1, fun k q h => by simp at h⟩, hE.warm hW⟩⟩ rfl rfl hsz rfl (lv_room hrest) hdg hf) kk
end CC
/-- the empty pool -/
def kE : zK := (fun _ => 0, [], fun _ => 0, fun _ => 0, fun _ _ => 0, fun _ => 0, fun _ => none)
def vE : zV := (fun _ _ => 0, fun _ _ => 0, fun _ _ => none)
theorem kE_C : zC kE vE := ⟨⟨List.nodup_nil, fun a h => absurd h List.not_mem_nil, fun a h => absurd h List.not_mem_nil, fun a h => absurd h List.not_mem_nil, fun a h => absurd h List.not_mem_nil, fun a h => absurd h List.not_mem_nil, (fun j hj g hg => by cases hg)⟩, ⟨fun a h => absurd h List.not_mem_nil, fun a h => absurd h List.not_mem_nil, fun a h => absurd h List.not_mem_nil, fun a h => absurd h List.not_mem_nil, fun a h => absurd h List.not_mem_nil, fun a h => absurd h List.not_mem_nil⟩, rfl, fun a h => absurd h List.not_mem_nil⟩
theorem kE_Ar (s : State) : zAr kE s := fun a h => absurd h List.not_mem_nil
/-- a constructor's body: what it begins with -/
theorem cin {l : Launch} {y : MethodName} {cc : ByteArray} {maxL d mc ms h0 sz : Nat} {e0 : va_E} {Qc : Array Value → State → Outcome → State → Prop} {av : List Value} {D : va_G} (hy : plainName y.cls = true) (hn : (lg_sl av).length ≤ maxL) (body : ∀ (p : Program) (e : Env) (s : State) (m : MethodId) (args : Array Value) (below : List Frame) (meth : Method) (c : Code) (ls : Array Slot) (A : Nat → Prop), sz = s.heap.size → (va_A [(h0, e0)] s.heap.size = A) → CallFix p m c cc maxL s args zw y.cls → meth.sig.returnType = none → meth.locks = false → meth.name = y.name → va_K D vwCl [] s → zXt s → va_P D vwCl ([(h0, e0)] ++ zW kE vE) s.heap → va_D A ([(h0, e0)] ++ zW kE vE) → (∀ x, s.heap.size ≤ x → A x) → va_S A s.heap s.heap [] → lv_has ls maxL (lv_args 0 av) → W p l e (rmc d mc ms) s m args below meth c s.heap [] 0 0 (MQ below Qc args s mc ms (va_A [(h0, e0)] sz)) (F0 m 0 ls [])) : Met l y (zc y cc maxL none) (rmc d mc ms) (va_Pc av (cP D h0 sz e0)) Qc mc ms (va_A [(h0, e0)] sz) := by
  refine Met.ofW (cc := cc) (maxL := maxL) (ret := none) hy rfl ?_
  intro p e s m args below meth c s₁ B hml hv
  obtain ⟨rfl, hsz, hP, hK, hE⟩ := hv
  have hts := atoms_spec (ws := zc y cc maxL none) B.pre
  have hown : s.vm.findClass y.cls = some m.cls := findClass_of_methodNamed B.named
  have hl := lv_entry av (n := maxL) hn
  rw [lg_entry_eq]
  have hD : va_D (fun _ => True) [(h0, e0)] := ⟨fun i j p q hi hj _ => by
      have h1 : i < 1 := (List.getElem?_eq_some_iff.mp hi).1
      have h2 : j < 1 := (List.getElem?_eq_some_iff.mp hj).1
      omega, fun _ _ _ => trivial⟩
  exact body p e s m _ below meth c _ _ hsz.symm rfl ⟨B.exec, B.bytes, hml, hown, fun w hw => hts w (List.mem_cons_of_mem _ hw)⟩ B.returns B.notSynchronized (name_of_methodNamed B.named B.method).1 hK hE hP (hD.self (sz := s.heap.size)) (fun x h => Or.inr h) va_S.rf hl
theorem cnewE {A : Nat → Prop} {D : va_G} {X : va_W} {K : zK} {V : zV} {H : Heap} {s : State} {q k n : Nat} {cA : ClassId} {ty : FieldType} {f : Nat → Int32} {o : Option Nat} (hC : zCo o K V) (hk : isP k = true) (hn : n < 2147483648) (h25 : k = 25 → ∀ j, j < n → 0 ≤ (f j).toInt ∧ (f j).toInt ≤ 7) (hty : zty k = some ty) (hP : va_P D vwCl ((X ++ zW K V) ++ [(q, .inl (cA, n, .inl f))]) H) (hD : va_D A ((X ++ zW K V) ++ [(q, .inl (cA, n, .inl f))])) (hAr : zAr K s) (hA1 : ArrOfT s cA ty ∧ va_RA s cA ty) : ∃ (K' : zK) (V' : zV), zCo o K' V' ∧ va_P D vwCl (X ++ zW K' V') H ∧ va_D A (X ++ zW K' V') ∧ zAr K' s ∧ zLe K K' ∧ zat K' q k n := ⟨_, _, cnew hC hk hn h25 hty hP hD hAr hA1⟩
def zXL : List (Nat × Nat × Nat × Nat) := [(1, 11, 20, 2), (1, 12, 20, 2), (1, 13, 20, 15), (1, 14, 20, 15), (1, 15, 20, 60), (1, 16, 20, 60), (1, 17, 7, 0), (2, 0, 5, 0), (2, 1, 20, 20736), (2, 2, 20, 20736), (2, 3, 20, 60), (2, 4, 23, 4), (2, 5, 23, 5), (2, 6, 23, 5), (5, 1, 20, 60), (5, 2, 20, 300), (7, 0, 20, 0), (8, 5, 20, 60), (8, 6, 20, 60), (8, 7, 21, 4), (8, 8, 20, 4), (8, 9, 7, 0), (8, 10, 7, 0), (8, 11, 7, 0), (8, 12, 23, 4), (8, 13, 1, 0), (10, 0, 22, 6), (10, 1, 24, 4), (10, 2, 24, 32), (10, 3, 25, 4), (10, 4, 20, 4), (10, 5, 8, 0), (10, 6, 5, 0), (10, 7, 5, 0), (10, 8, 2, 0), (11, 0, 40, 47730), (11, 1, 41, 4), (11, 2, 42, 4), (11, 3, 43, 6), (11, 4, 44, 6), (11, 5, 45, 6), (11, 8, 48, 300), (11, 10, 50, 60), (11, 13, 53, 60), (11, 15, 55, 4), (11, 18, 58, 16), (11, 19, 59, 4), (11, 21, 61, 262144), (11, 22, 62, 262144), (11, 26, 66, 4), (11, 29, 69, 4), (11, 30, 70, 4), (11, 31, 71, 4), (11, 32, 72, 4), (11, 33, 73, 4)]
theorem zX_mem {k j k' n : Nat} (h : zX k j = some (k', n)) : (k, j, k', n) ∈ zXL := by
  unfold zX at h
  split at h <;> first | (cases h; decide) | cases h
theorem zXf {P : Nat → Nat → Nat → Prop} (k : Nat) (L : List (Nat × Nat × Nat × Nat)) (hL : zXL.filter (fun q => q.1 == k) = L) (hP : ∀ q ∈ L, P q.2.1 q.2.2.1 q.2.2.2) : ∀ j k' n, zX k j = some (k', n) → P j k' n := fun j k' n h => hP (k, j, k', n) (by rw [← hL]; exact List.mem_filter.mpr ⟨zX_mem h, by simp⟩)
theorem zi15 : 0 ≤ (0 : Int32).toInt ∧ (0 : Int32).toInt ≤ 15 := by decide +kernel
theorem zi4 : 0 ≤ (0 : Int32).toInt ∧ (0 : Int32).toInt ≤ 4 := by decide +kernel
section CP2
variable {K : zK} {V : zV} {h n : Nat} {cA : ClassId} {A : Nat → Prop} {D : va_G} {X : va_W} {H : Heap} {s : State} {f : Nat → Option Nat}
theorem cpush23 {o : Option Nat} (hC : zCo o K V) (hP : va_P D vwCl ((X ++ [(h, .inl (cA, n, .inr (.inr (.inr (.inr f)))))]) ++ zW K V) H) (hD : va_D A ((X ++ [(h, .inl (cA, n, .inr (.inr (.inr (.inr f)))))]) ++ zW K V)) (hr : rfs K 7 f n) (hn : n < 2147483648) (hAr : zAr K s) (hA1 : ArrOfT s cA (.object RX8) ∧ va_RA s cA (.object RX8)) : ∃ (K' : zK) (V' : zV), zCo o K' V' ∧ va_P D vwCl (X ++ zW K' V') H ∧ va_D A (X ++ zW K' V') ∧ zAr K' s ∧ zLe K K' ∧ zat K' h 23 n := by
  refine ⟨_, _, cpush (k := 23) (n := n) (cA := cA) (r := fun j => (f j).getD 0) (t := 0) (x := fun _ => 0) hC ⟨fun _ h9 => h9, fun h9 => by cases h9⟩ hP hD ?_ hn (by decide) (fun j k' n' hx => ?_) (fun _ j hj => hr.z hj) (fun h9 => by cases h9) (fun h9 => by cases h9) (fun h9 => by cases h9) hAr (fun ty e => by cases e; exact hA1)⟩
  · rw [zF_23 kP_at.2.1, kP_at.1, kP_at.2.2.1, kP_at.2.2.2.1]
    have h1 := cmid hP
    have h2 := hr.cell cA
    show H[h]? = some (vp_cell cA (n, _))
    rw [← h2]; exact h1
  · exact absurd (zX_mem hx) (by revert hx; intro _ h9; revert h9; simp [zXL])
theorem cpush24 {o : Option Nat} (hC : zCo o K V) (hP : va_P D vwCl ((X ++ [(h, .inl (cA, n, .inr (.inr (.inr (.inr f)))))]) ++ zW K V) H) (hD : va_D A ((X ++ [(h, .inl (cA, n, .inr (.inr (.inr (.inr f)))))]) ++ zW K V)) (hr : rfs K 8 f n) (hn : n < 2147483648) (hAr : zAr K s) (hA1 : ArrOfT s cA (.object RX9) ∧ va_RA s cA (.object RX9)) : ∃ (K' : zK) (V' : zV), zCo o K' V' ∧ va_P D vwCl (X ++ zW K' V') H ∧ va_D A (X ++ zW K' V') ∧ zAr K' s ∧ zLe K K' ∧ zat K' h 24 n := by
  refine ⟨_, _, cpush (k := 24) (n := n) (cA := cA) (r := fun j => (f j).getD 0) (t := 0) (x := fun _ => 0) hC ⟨fun _ h9 => h9, fun h9 => by cases h9⟩ hP hD ?_ hn (by decide) (fun j k' n' hx => ?_) (fun h9 => by cases h9) (fun _ j hj => hr.z hj) (fun h9 => by cases h9) (fun h9 => by cases h9) hAr (fun ty e => by cases e; exact hA1)⟩
  · rw [zF_24 kP_at.2.1, kP_at.1, kP_at.2.2.1, kP_at.2.2.2.1]
    have h1 := cmid hP
    have h2 := hr.cell cA
    show H[h]? = some (vp_cell cA (n, _))
    rw [← h2]; exact h1
  · exact absurd (zX_mem hx) (by revert hx; intro _ h9; revert h9; simp [zXL])
theorem cpush22 (hC : zC K V) (hP : va_P D vwCl ((X ++ [(h, .inl (cA, n, .inr (.inr (.inr (.inr (fun _ => none))))))]) ++ zW K V) H) (hD : va_D A ((X ++ [(h, .inl (cA, n, .inr (.inr (.inr (.inr (fun _ => none))))))]) ++ zW K V)) (hn : n < 2147483648) (hAr : zAr K s) (hA1 : ArrOfT s cA (.object RX4) ∧ va_RA s cA (.object RX4)) : ∃ (K' : zK) (V' : zV), zCo (some h) K' V' ∧ va_P D vwCl (X ++ zW K' V') H ∧ va_D A (X ++ zW K' V') ∧ zAr K' s ∧ zLe K K' ∧ zat K' h 22 n := by
  refine ⟨_, _, cpush (k := 22) (n := n) (cA := cA) (r := fun j => 0) (t := 0) (x := fun _ => 0) hC ⟨(fun _ h9 => by cases h9), fun _ => rfl⟩ hP hD ?_ hn (by decide) (fun j k' n' hx => ?_) (fun h9 => by cases h9) (fun h9 => by cases h9) (fun h9 => by cases h9) (fun h9 => by cases h9) hAr (fun ty e => by cases e; exact hA1)⟩
  · rw [zF_22 kP_at.2.1, kP_at.1, kP_at.2.2.1, show zg (kP K h 22 n cA (fun j => 0) 0) = zg K from rfl, hC.2.2.1]
    exact cmid hP
  · exact absurd (zX_mem hx) (by revert hx; intro _ h9; revert h9; simp [zXL])
theorem cpushO {k : Nat} {fs : List Value} {o : Option Nat} (hk : k < 20 ∧ k ≠ 6) (hC : zCo o K V) (hP : va_P D vwCl ((X ++ [(h, .inr (k, fs))]) ++ zW K V) H) (hD : va_D A ((X ++ [(h, .inr (k, fs))]) ++ zW K V)) (r : Nat → Nat) (x : Nat → Int32) (hF : ∀ (K' : zK) (V' : zV), zk K' h = k → zr K' h = r → V'.1 h = x → (V'.2.2 h = fun _ => none) → zF K' V' h = .inr (k, fs)) (hR : ∀ j k' n', zX k j = some (k', n') → zat K (r j) k' n') (hi1 : 0 ≤ (x 8).toInt ∧ (x 8).toInt ≤ 15) (hi2 : 0 ≤ (x 11).toInt ∧ (x 11).toInt ≤ 4) (hAr : zAr K s) : ∃ (K' : zK) (V' : zV), (zCo o K' V' ∧ va_P D vwCl (X ++ zW K' V') H ∧ va_D A (X ++ zW K' V') ∧ zAr K' s ∧ zLe K K' ∧ zat K' h k 0) ∧ zr K' h = r := by
  refine ⟨_, _, cpush (k := k) (n := 0) (cA := 0) (r := r) (t := 0) (x := x) hC ⟨fun _ h9 => h9, fun h9 => by omega⟩ hP hD ?_ (by decide) ⟨hk.2, by omega⟩ hR (fun h9 => by omega) (fun h9 => by omega) (fun _ => hi1) (fun _ => hi2) hAr (fun ty e => ?_), kP_at.2.2.2.1⟩
  · rw [hF _ _ kP_at.2.1 kP_at.2.2.2.1 vP_at.1 vP_at.2]; exact cmid hP
  · have h9 : zty k = none := by
      rcases (show k = 0 ∨ k = 1 ∨ k = 2 ∨ k = 3 ∨ k = 4 ∨ k = 5 ∨ k = 6 ∨ k = 7 ∨ k = 8 ∨ k = 9 ∨ k = 10 ∨ k = 11 ∨ k = 12 ∨ k = 13 ∨ k = 14 ∨ k = 15 ∨ k = 16 ∨ k = 17 ∨ k = 18 ∨ k = 19 by omega) with rfl | rfl | rfl | rfl | rfl | rfl | rfl | rfl | rfl | rfl | rfl | rfl | rfl | rfl | rfl | rfl | rfl | rfl | rfl | rfl <;> rfl
    rw [h9] at e; cases e
theorem cend {p : Program} {l : Launch} {e : Env} {R : Room} {m : MethodId} {args : Array Value} {below : List Frame} {meth : Method} {c : Code} {locs : List Loc} {mc ms k h0 pc : Nat} {cc : ByteArray} {e0 : va_E} {ls : Array Slot} (hx : p.tables.exec = Jvm.exec) (hb : c.code = cc) (hr : meth.sig.returnType = none) (hlocks : meth.locks = false) (hAe : va_A [(h0, e0)] s.heap.size = A) {o : Option Nat} (hC : zCo o K V) (ho : (k ≠ 10 → o = none) ∧ (k = 10 → o = some (zr K h0 0))) (hP : va_P D vwCl ([] ++ zW K V) H) (hD : va_D A ([] ++ zW K V)) (hS : va_S A s.heap H locs) (hAr : zAr K s) (hq : zat K h0 k 0) (hdg : decode cc pc = .ok (.return_, 1)) : W p l e R s m args below meth c H locs mc ms (MQ below (cQ D k h0 s.heap.size e0) args s mc ms (va_A [(h0, e0)] s.heap.size)) (F0 m pc ls []) := by
  rw [← hAe] at hD hS
  exact W.vret hx hb hr (fun t ht hW => ⟨⟨(K, V), rfl, ⟨⟨o, hC, ho⟩, hq⟩, by rw [ht]; exact hP, hAr.moved hW.alike, fun a ha => by
    obtain ⟨i, hi⟩ := zl_at (f := zF K V) ha
    exact hD.2 i _ hi⟩, hS.F ht⟩) hS.2.2 hdg hlocks
end CP2
