def nib (m s : Int) : Int := m / (16 ^ s.toNat) % 16
theorem nib_all {m : Int} (h : 0 ≤ m ∧ m ≤ 65535) (h0 : nib m 0 = 0) (h1 : nib m 1 = 0) (h2 : nib m 2 = 0) (h3 : nib m 3 = 0) : m = 0 := by
  have e0 : m / 1 % 16 = 0 := h0
  have e1 : m / 16 % 16 = 0 := h1
  have e2 : m / 256 % 16 = 0 := h2
  have e3 : m / 4096 % 16 = 0 := h3
  omega
theorem nib_0 (s : Int) : nib 0 s = 0 := by simp [nib]
def nz4 (m l n : Int) : Prop := ∀ j : Int, 0 ≤ j → j < n → nib m ((l + j) % 4) = 0
theorem nz4.z {m l n : Int} (hn : n ≤ 0) : nz4 m l n := fun i h1 h2 => by omega
theorem nz4.s {m l n n' : Int} (h : nz4 m l n) (hn : n' = n + 1) (hc : nib m ((l + n) % 4) = 0) : nz4 m l n' := fun i h1 h2 => by
  rcases (by omega : i < n ∨ i = n) with h9 | h9
  · exact h i h1 h9
  · rw [h9]; exact hc
theorem nz4.all {m l n : Int} (h : nz4 m l n) (hn : 4 ≤ n) (hl : 0 ≤ l ∧ l ≤ 3) (hm : 0 ≤ m ∧ m ≤ 65535) : m = 0 := by
  have g : ∀ q : Int, 0 ≤ q → q ≤ 3 → nib m q = 0 := fun q h1 h2 => by
    have := h ((q - l) % 4) (by omega) (by omega)
    rwa [show (l + (q - l) % 4) % 4 = q by omega] at this
  exact nib_all hm (g 0 (by decide) (by decide)) (g 1 (by decide) (by decide)) (g 2 (by decide) (by decide)) (g 3 (by decide) (by decide))
theorem lf_t : ∀ t, t < 16 → (0 ≤ ((nI t &&& 1) + (nI t >>> ((1 : Int32) &&& 31) &&& 1) + (nI t >>> ((2 : Int32) &&& 31) &&& 1) + nI t >>> ((3 : Int32) &&& 31)).toInt ∧ ((nI t &&& 1) + (nI t >>> ((1 : Int32) &&& 31) &&& 1) + (nI t >>> ((2 : Int32) &&& 31) &&& 1) + nI t >>> ((3 : Int32) &&& 31)).toInt ≤ 4) ∧ (((nI t &&& 1) + (nI t >>> ((1 : Int32) &&& 31) &&& 1) + (nI t >>> ((2 : Int32) &&& 31) &&& 1) + nI t >>> ((3 : Int32) &&& 31)).toInt ≤ 0 ↔ t = 0) := by decide +kernel
theorem lf_ok {mask s a b m r : Int32} (ea : a = 4 * s) (eb : b = mask >>> (a &&& 31)) (em : m = b &&& 15) (er : r = (m &&& 1) + (m >>> ((1 : Int32) &&& 31) &&& 1) + (m >>> ((2 : Int32) &&& 31) &&& 1) + m >>> ((3 : Int32) &&& 31)) (hm : 0 ≤ mask.toInt ∧ mask.toInt ≤ 65535) (hs : 0 ≤ s.toInt ∧ s.toInt ≤ 3) : 0 ≤ r.toInt ∧ r.toInt ≤ 4 ∧ (r.toInt ≤ 0 → nib mask.toInt s.toInt = 0) ∧ (0 < r.toInt → mask.toInt ≠ 0) := by
  obtain ⟨n, hn, rfl⟩ : ∃ n : Nat, n < 65536 ∧ mask = nI n := ⟨mask.toInt.toNat, by omega, by rw [fa_eq, nI_toInt (by omega)]; omega⟩
  obtain ⟨j, hj, rfl⟩ : ∃ j : Nat, j < 4 ∧ s = nI j := ⟨s.toInt.toNat, by omega, by rw [fa_eq, nI_toInt (by omega)]; omega⟩
  have hk : ((a &&& 31).toBitVec.smod 32).toNat = 4 * j := by
    rw [ea]
    have : ∀ j, j < 4 → (((4 * nI j : Int32) &&& 31).toBitVec.smod 32).toNat = 4 * j := by decide +kernel
    exact this j hj
  have hb : b = nI (n / 2 ^ (4 * j)) := by rw [eb]; exact pk_shrN (by omega) _ _ hk
  have hlt : n / 2 ^ (4 * j) < 65536 := Nat.lt_of_le_of_lt (Nat.div_le_self _ _) hn
  have hm2 : m = nI (n / 2 ^ (4 * j) % 16) := by rw [em, hb]; exact pk_andN (by omega) 4 (by decide +kernel)
  have ht : n / 2 ^ (4 * j) % 16 < 16 := Nat.mod_lt _ (by decide)
  have h := lf_t _ ht
  rw [← hm2, ← er] at h
  rw [nI_toInt (by omega : n < 2 ^ 31), nI_toInt (by omega : j < 2 ^ 31)]
  have e16 : (2 : Nat) ^ (4 * j) = 16 ^ j := by rw [Nat.pow_mul]
  refine ⟨h.1.1, h.1.2, fun h9 => ?_, fun h9 h8 => ?_⟩
  · have h7 := h.2.mp h9
    rw [e16] at h7
    show (n : Int) / 16 ^ ((j : Int).toNat) % 16 = 0
    rw [Int.toNat_natCast]
    have h6 : (((n / 16 ^ j % 16 : Nat)) : Int) = 0 := by rw [h7]; rfl
    rw [← h6]
    push_cast
    rfl
  · have hn0 : n = 0 := by omega
    have h7 : n / 2 ^ (4 * j) % 16 = 0 := by rw [hn0]; simp
    have h6 := h.2.mpr h7
    omega
