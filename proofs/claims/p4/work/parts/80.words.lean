/-! the reference's pool, as its constructor leaves it -/
def mG0 : Nat → Int32 := upd (upd (upd (upd (upd (upd (fun _ => 0) 0 (-1)) 1 (-1)) 2 (-1)) 3 (-1)) 4 (-1)) 5 (-1)
def mA0 : Nat → Nat → Int32 := fun k => if k = 43 then mG0 else fun _ => 0
def mf0 : Nat → Int32 := fun j => if j = 23 then -1 else 0
def mZ (A0 : Nat → Nat → Int32) (ks : List Nat) (K : zK) (V : zV) : Prop := (∀ a ∈ zl K, ∀ b ∈ zl K, zk K a = zk K b → a = b) ∧ (∀ a ∈ zl K, zk K a ∈ ks ∧ 40 ≤ zk K a) ∧ ∀ a ∈ zl K, V.2.1 a = A0 (zk K a)
theorem mZ.nil {A0 : Nat → Nat → Int32} : mZ A0 [] kE vE := ⟨fun a h => absurd h List.not_mem_nil, fun a h => absurd h List.not_mem_nil, fun a h => absurd h List.not_mem_nil⟩
theorem cnewM {A : Nat → Prop} {D : va_G} {X : va_W} {K : zK} {V : zV} {H : Heap} {s : State} {q k n : Nat} {cA : ClassId} {ty : FieldType} {f : Nat → Int32} {o : Option Nat} {A0 : Nat → Nat → Int32} {ks : List Nat} (hC : zCo o K V) (hm : mZ A0 ks K V) (hk40 : 40 ≤ k) (hks : k ∉ ks) (hf : f = A0 k) (hn : n < 2147483648) (hty : zty k = some ty) (hP : va_P D vwCl ((X ++ zW K V) ++ [(q, .inl (cA, n, .inl f))]) H) (hD : va_D A ((X ++ zW K V) ++ [(q, .inl (cA, n, .inl f))])) (hAr : zAr K s) (hA1 : ArrOfT s cA ty ∧ va_RA s cA ty) : ∃ (K' : zK) (V' : zV), zCo o K' V' ∧ va_P D vwCl (X ++ zW K' V') H ∧ va_D A (X ++ zW K' V') ∧ zAr K' s ∧ zLe K K' ∧ zat K' q k n ∧ mZ A0 (k :: ks) K' V' := by
  obtain ⟨h1, h2, h3, h4, h5, h6⟩ := cnew hC (k := k) (decide_eq_true ⟨by omega, by omega, by omega, by omega⟩) hn (fun h9 => by omega) hty hP hD hAr hA1
  refine ⟨_, _, h1, h2, h3, h4, h5, h6, ?_⟩
  have hq : q ∉ zl K := fun hx => by
    obtain ⟨i, hi⟩ := zl_at (f := zF K V) hx
    exact ap_ne hD (ap_r (X := X) hi) (j := 0) rfl rfl
  have M : ∀ a ∈ zl K ++ [q], (a = q ∧ zk (kU K (kA q k n cA)) a = k ∧ (vU (kA q k n cA) V (vA f)).2.1 a = f) ∨ (a ∈ zl K ∧ a ≠ q ∧ zk (kU K (kA q k n cA)) a = zk K a ∧ (vU (kA q k n cA) V (vA f)).2.1 a = V.2.1 a) := fun a ha => by
    by_cases c : a ∈ zl (kA q k n cA)
    · exact Or.inl ⟨List.mem_singleton.mp c, (kU_in c).2.1, (vU_in c).2.1⟩
    · exact Or.inr ⟨(List.mem_append.mp ha).resolve_right c, fun e9 => c (by rw [e9]; exact List.mem_cons_self), (kU_no c).2.1, (vU_no c).2.1⟩
  refine ⟨fun a ha b hb e9 => ?_, fun a ha => ?_, fun a ha => ?_⟩
  · rcases M a ha with ⟨a1, a2, a3⟩ | ⟨a1, a2, a3, a4⟩ <;> rcases M b hb with ⟨b1, b2, b3⟩ | ⟨b1, b2, b3, b4⟩
    · rw [a1, b1]
    · rw [a2, b3] at e9; exact absurd (e9 ▸ (hm.2.1 b b1).1) hks
    · rw [a3, b2] at e9; exact absurd (e9 ▸ (hm.2.1 a a1).1) hks
    · rw [a3, b3] at e9; exact hm.1 a a1 b b1 e9
  · rcases M a ha with ⟨a1, a2, a3⟩ | ⟨a1, a2, a3, a4⟩
    · rw [a2]; exact ⟨List.mem_cons_self, hk40⟩
    · rw [a3]; exact ⟨List.mem_cons_of_mem _ (hm.2.1 a a1).1, (hm.2.1 a a1).2⟩
  · rcases M a ha with ⟨a1, a2, a3⟩ | ⟨a1, a2, a3, a4⟩
    · rw [a2, a3]; exact hf
    · rw [a3, a4]; exact hm.2.2 a a1
theorem isP40 {k : Nat} (h : 40 ≤ k) : isP k = true := decide_eq_true ⟨by omega, by omega, by omega, by omega⟩
theorem cpushM {A : Nat → Prop} {D : va_G} {K : zK} {V : zV} {H : Heap} {s : State} {h : Nat} {o : Option Nat} {A0 : Nat → Nat → Int32} {ks : List Nat} {fs : List Value} (hC : zCo o K V) (hm : mZ A0 ks K V) (hP : va_P D vwCl (([] ++ [(h, .inr (11, fs))]) ++ zW K V) H) (hD : va_D A (([] ++ [(h, .inr (11, fs))]) ++ zW K V)) (r : Nat → Nat) (x : Nat → Int32) (hF : ∀ (K' : zK) (V' : zV), zk K' h = 11 → zr K' h = r → V'.1 h = x → zF K' V' h = .inr (11, fs)) (hR : ∀ j k' n', zX 11 j = some (k', n') → zat K (r j) k' n') (hAr : zAr K s) : ∃ (K' : zK), mK K' ∧ va_P D vwCl (zW K' (mV K' x A0)) H ∧ zAr K' s ∧ zat K' h 11 0 ∧ ∀ a ∈ zl K', A a := by
  obtain ⟨h1, h2, h3, h4, h5, h6⟩ := cpush (X := []) (k := 11) (n := 0) (cA := 0) (r := r) (t := 0) (x := x) (o' := o) hC ⟨fun _ h9 => h9, fun h9 => by omega⟩ hP hD (by rw [hF _ _ kP_at.2.1 kP_at.2.2.2.1 vP_at.1]; exact cmid hP) (by decide) (by decide) hR (fun h9 => by cases h9) (fun h9 => by cases h9) (fun h9 => by cases h9) (fun h9 => by cases h9) hAr (fun ty e9 => by cases e9)
  have M : ∀ a ∈ zl K ++ [h], a ≠ h → a ∈ zl K := fun a ha e => (List.mem_append.mp ha).resolve_right (fun q => e (List.mem_singleton.mp q))
  refine ⟨kP K h 11 0 0 r 0, ⟨h1.1, fun a ha b hb e9 => ?_, fun a ha => ?_⟩, ?_, h4, h6, fun a ha => ?_⟩
  · by_cases c : a = h <;> by_cases d : b = h
    · rw [c, d]
    · rw [c, kP_at.2.1, (kP_ne d).2.1] at e9
      have h9 := (hm.2.1 b (M b hb d)).2
      omega
    · rw [d, kP_at.2.1, (kP_ne c).2.1] at e9
      have h9 := (hm.2.1 a (M a ha c)).2
      omega
    · rw [(kP_ne c).2.1, (kP_ne d).2.1] at e9
      exact hm.1 a (M a ha c) b (M b hb d) e9
  · by_cases c : a = h
    · rw [c, kP_at.2.1]; exact Or.inl rfl
    · rw [(kP_ne c).2.1]; exact Or.inr (hm.2.1 a (M a ha c)).2
  · have e9 : zW (kP K h 11 0 0 r 0) (mV (kP K h 11 0 0 r 0) x A0) = zW (kP K h 11 0 0 r 0) (vP V h x) := by
      refine List.map_congr_left (fun a ha => ?_)
      by_cases c : a = h
      · rw [c, zF_11 kP_at.2.1, zF_11 kP_at.2.1]
        simp only [vP_at.1, mV]
      · have g1 := (hm.2.1 a (M a ha c)).2
        have g2 : zk (kP K h 11 0 0 r 0) a = zk K a := (kP_ne c).2.1
        rw [zF_p g2 (isP40 g1), zF_p g2 (isP40 g1)]
        rw [show (mV (kP K h 11 0 0 r 0) x A0).2.1 a = A0 (zk (kP K h 11 0 0 r 0) a) from rfl, g2, ← hm.2.2 a (M a ha c)]
        rfl
    rw [e9]; exact h2
  · obtain ⟨i, hi⟩ := zl_at (f := zF (kP K h 11 0 0 r 0) (vP V h x)) ha
    exact h3.2 i _ hi
theorem mf0_T : mT mf0 mA0 := by
  refine ⟨fun j => ?_, fun k j hj => ?_⟩
  · by_cases c : j = 23
    · subst c; exact trivial
    · rw [show mf0 j = 0 from if_neg c]
      unfold tF
      split <;> first | trivial | (rw [ti_0]; decide)
  · by_cases c : k = 43
    · subst c; exact trivial
    · rw [show mA0 k = fun _ => 0 from if_neg c]
      unfold tA tP
      split <;> first | trivial | (simp only [ti_0]; omega)
theorem z_row (b : Int) : rowOk (fun _ => 0) b 0 := by
  refine ⟨⟨⟨?_, fun i j h1 h2 h3 => ?_, fun c h1 h2 => ?_⟩, fun h => ?_⟩, fun k h1 h2 => ⟨fun h => ?_, fun h => ?_, fun h => ?_⟩, ?_⟩
  · unfold rS hS hd mx; simp only [ti_0]; decide
  · simp only [ti_0] at h3; omega
  · simp only [ti_0] at h2; omega
  · simp only [ti_0] at h; omega
  · simp only [ti_0] at h; omega
  · simp only [ti_0] at h; omega
  · simp only [ti_0] at h; omega
  · show (0 : Int32).toInt ≤ 0; rw [ti_0]; decide
theorem mf0_k : okk 0 mf0 mA0 := by
  have e0 : mA0 40 = fun _ => 0 := rfl
  refine ⟨fun r _ _ => by rw [e0]; exact z_row _, fun t _ _ _ h4 => ?_, ?_, ?_⟩
  · rw [e0] at h4; rw [show ((fun _ => (0 : Int32)) (1290 * t + 5).toNat).toInt = 0 from ti_0] at h4; omega
  · show (0 : Int32).toInt ≤ 1000 * 0; rw [ti_0]; decide
  · show (0 : Int32).toInt ≤ 1000 * 0; rw [ti_0]; decide
theorem mA0_43 : ∀ j, j < 6 → mA0 43 j = -1 := by
  intro j hj
  rcases (show j = 0 ∨ j = 1 ∨ j = 2 ∨ j = 3 ∨ j = 4 ∨ j = 5 by omega) with rfl | rfl | rfl | rfl | rfl | rfl <;> decide +kernel
