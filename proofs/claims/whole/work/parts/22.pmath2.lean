def zl1 (L k : Nat) : Nat := L + zsl (257 + k)
def zl2 (L k : Nat) : Nat := zl1 L k + tn_LENGTH_EXTRA k
def zl4 (L k d : Nat) : Nat := zl2 L k + 5 + tn_DISTANCE_EXTRA d
def zv2 (V L n k : Nat) : Nat := zsv V L (257 + k) + (n - tn_LENGTH_BASE k) * 2 ^ zl1 L k
def zv4 (V L n w k d : Nat) : Nat := zhi (zv2 V L n k) (zl2 L k) d 5 + (w - tn_DISTANCE_BASE d) * 2 ^ (zl2 L k + 5)
theorem z_lb : ∀ k, k < 28 → tn_LENGTH_BASE (k + 1) ≤ tn_LENGTH_BASE k + 2 ^ tn_LENGTH_EXTRA k := by decide +kernel
theorem z_le : ∀ k, k < 29 → tn_LENGTH_EXTRA k ≤ 5 := by decide +kernel
theorem z_db : ∀ k, k < 29 → tn_DISTANCE_BASE (k + 1) ≤ tn_DISTANCE_BASE k + 2 ^ tn_DISTANCE_EXTRA k := by decide +kernel
theorem z_de : ∀ k, k < 24 → tn_DISTANCE_EXTRA k ≤ 10 := by decide +kernel
theorem z_d24 : ∀ k, k < 30 → 24 ≤ k → 4097 ≤ tn_DISTANCE_BASE k := by decide +kernel
theorem z_lt_l : ∀ k, k < 29 → tn_LENGTH_BASE k < 100000 := by decide +kernel
theorem z_lt_d : ∀ k, k < 30 → tn_DISTANCE_BASE k < 100000 := by decide +kernel
theorem z_len {n k : Nat} (h : zIs tn_LENGTH_BASE 29 n k) (hn : n ≤ 258) : n - tn_LENGTH_BASE k < 2 ^ tn_LENGTH_EXTRA k ∧ tn_LENGTH_EXTRA k ≤ 5 ∧ tn_LENGTH_BASE k ≤ n ∧ k < 29 := by
  obtain ⟨h1, h2, h3⟩ := h
  refine ⟨?_, z_le k h1, h2, h1⟩
  rcases Nat.lt_or_ge k 28 with q | q
  · have := z_lb k q
    omega
  · obtain rfl : k = 28 := by omega
    have e : tn_LENGTH_BASE 28 = 258 := by decide
    have e2 : tn_LENGTH_EXTRA 28 = 0 := by decide
    rw [e, e2]
    omega
theorem z_dst {w d : Nat} (h : zIs tn_DISTANCE_BASE 30 w d) (hn : w ≤ 4000) : w - tn_DISTANCE_BASE d < 2 ^ tn_DISTANCE_EXTRA d ∧ tn_DISTANCE_EXTRA d ≤ 10 ∧ tn_DISTANCE_BASE d ≤ w ∧ d < 24 := by
  obtain ⟨h1, h2, h3⟩ := h
  have hd : d < 24 := by
    rcases Nat.lt_or_ge d 24 with q | q
    · exact q
    · have := z_d24 d h1 q
      omega
  refine ⟨?_, z_de d hd, h2, hd⟩
  have := z_db d (by omega)
  omega
