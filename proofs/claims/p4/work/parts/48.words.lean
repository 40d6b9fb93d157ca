theorem fC.two {C C1 : Nat → Int32} {b : Int} {l : List (Int × Int)} (h : fC C C1 b l) {k : Int} (hb : 0 ≤ b) (hk : 0 ≤ k) (hl : l.all (fun p => decide (k < p.1) || decide (p.2 < k)) = true) : C1 (b + k).toNat = C (b + k).toNat := h (b + k) (by omega) (fun p hp => by
  have h9 := List.all_eq_true.mp hl p hp
  simp only [Bool.or_eq_true, decide_eq_true_eq] at h9
  omega)
theorem th_ok {C C1 C2 : Nat → Int32} {b s at_ H R : Int} {c xh xw : Int32} (hb : 0 ≤ b) (hs : 0 ≤ s ∧ s ≤ 3) (hR : (C (b + 21).toNat).toInt = R) (hat : 0 ≤ at_ ∧ at_ < R ∧ R ≤ 60) (hH : 0 ≤ H ∧ H ≤ 59) (hc : C (b + at_ + 170).toNat = c) (hc2 : 0 ≤ c.toInt ∧ c.toInt ≤ 59) (f1 : fC C C1 b [(21, 21), (170, 229)]) (r1 : (C1 (b + 21).toNat).toInt = R - 1) (sh : shL C C1 b at_ (R - 1)) (e : C2 = upd (upd (upd C1 (b + H + 60 * s + 230).toNat c) (b + s + 22).toNat xh) (b + c.toInt + 110).toNat xw) (hxw : xw.toInt ≠ 0) (hp1 : (C (b + 1).toNat).toInt ≤ 60) : (C2 (b + 21).toNat).toInt = R - 1 ∧ C2 (b + s + 22).toNat = xh ∧ (∀ q : Int, 0 ≤ q → q ≤ 3 → q ≠ s → C2 (b + q + 22).toNat = C (b + q + 22).toNat) ∧ (rK C b → rK C2 b) := by
  have g : ∀ j : Int, 0 ≤ j → j ≠ b + c.toInt + 110 → j ≠ b + s + 22 → j ≠ b + H + 60 * s + 230 → C2 j.toNat = C1 j.toNat := fun j h0 h1 h2 h3 => by
    rw [e, pk_un (by omega), pk_un (by omega), pk_un (by omega)]
  have f2 : ∀ j : Int, 0 ≤ j → (j < b + 21 ∨ b + 21 < j) → (j < b + 170 ∨ b + 229 < j) → C1 j.toNat = C j.toNat := fun j h0 h1 h2 => f1 j h0 (by
    simp only [List.mem_cons, List.not_mem_nil, or_false, forall_eq_or_imp, forall_eq]
    exact ⟨h1, h2⟩)
  refine ⟨?_, ?_, fun q h1 h2 h3 => ?_, fun hk => ?_⟩
  · rw [g _ (by omega) (by omega) (by omega) (by omega)]; exact r1
  · rw [e, pk_un (by omega), pk_us]
  · rw [g _ (by omega) (by omega) (by omega) (by omega), f2 _ (by omega) (by omega) (by omega)]
  · intro d hd0 hd1 hdw
    rw [g (b + 1) (by omega) (by omega) (by omega) (by omega), f2 (b + 1) (by omega) (by omega) (by omega)] at hd1
    by_cases hdc : d = c.toInt
    · exfalso
      rw [hdc, e, pk_us] at hdw
      exact hxw hdw
    · by_cases hd60 : d < 60
      · rw [g (b + d + 110) (by omega) (by omega) (by omega) (by omega), f2 (b + d + 110) (by omega) (by omega) (by omega)] at hdw
        obtain ⟨k, k0, k1, k2⟩ := hk d hd0 hd1 hdw
        rw [hR] at k1
        have hka : k ≠ at_ := fun h => by rw [h, hc] at k2; exact hdc k2.symm
        have hrest : (C2 (b + 21).toNat).toInt = R - 1 := by rw [g _ (by omega) (by omega) (by omega) (by omega)]; exact r1
        rw [hrest]
        rcases (by omega : k < at_ ∨ at_ < k) with h | h
        · refine ⟨k, k0, by omega, ?_⟩
          rw [g (b + k + 170) (by omega) (by omega) (by omega) (by omega), sh.1 k k0 h]
          exact k2
        · refine ⟨k - 1, by omega, by omega, ?_⟩
          rw [g (b + (k - 1) + 170) (by omega) (by omega) (by omega) (by omega), sh.2.1 (k - 1) (by omega) (by omega), show b + (k - 1) + 171 = b + k + 170 by omega]
          exact k2
      · exfalso
        have hp : (C (b + 1).toNat).toInt ≤ 60 := hp1
        omega
