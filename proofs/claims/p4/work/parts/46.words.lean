/-- the rest, one card taken out of it at 'at', as far as k -/
def shL (C C1 : Nat → Int32) (b at_ k : Int) : Prop := (∀ j : Int, 0 ≤ j → j < at_ → C1 (b + j + 170).toNat = C (b + j + 170).toNat) ∧ (∀ j : Int, at_ ≤ j → j < k → C1 (b + j + 170).toNat = C (b + j + 171).toNat) ∧ (∀ j : Int, k ≤ j → j < 60 → C1 (b + j + 170).toNat = C (b + j + 170).toNat)
theorem shL.z {C C1 : Nat → Int32} {b at_ : Int} (h : ∀ j : Int, 0 ≤ j → j < 60 → C1 (b + j + 170).toNat = C (b + j + 170).toNat) (h0 : 0 ≤ at_ ∧ at_ ≤ 60) : shL C C1 b at_ at_ := ⟨fun j h1 h2 => h j h1 (by omega), fun j h1 h2 => by omega, fun j h1 h2 => h j (by omega) h2⟩
theorem shL.s {A A1 : Nat → Nat → Int32} {C : Nat → Int32} {b at_ k k1 : Int} {x : Int32} (h : shL C (A 40) b at_ k) (hb : 0 ≤ b) (h0 : 0 ≤ at_ ∧ at_ ≤ k ∧ k + 1 < 60) (hk : k1 = k + 1) (e : A1 = va_up A 40 (upd (A 40) (b + k + 170).toNat x)) (hx : x = A 40 (b + k + 171).toNat) : shL C (A1 40) b at_ k1 := by
  subst hk
  have hA : A1 40 = upd (A 40) (b + k + 170).toNat x := by rw [e, va_up_self]
  rw [hA]
  refine ⟨fun j h1 h2 => ?_, fun j h1 h2 => ?_, fun j h1 h2 => ?_⟩
  · rw [pk_un (by omega)]; exact h.1 j h1 h2
  · rcases (by omega : j < k ∨ j = k) with h9 | h9
    · rw [pk_un (by omega)]; exact h.2.1 j h1 h9
    · rw [h9, pk_us, hx]
      have h8 := h.2.2 (k + 1) (by omega) h0.2.2
      rwa [show b + (k + 1) + 170 = b + k + 171 by omega] at h8
  · rw [pk_un (by omega)]; exact h.2.2 j (by omega) h2
