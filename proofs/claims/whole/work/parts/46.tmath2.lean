/-! the lengths of the length codes, as a block tells them -/
def ziv (k : Nat) : Nat := ([3, 17, 15, 13, 11, 9, 7, 5, 4, 6, 8, 10, 12, 14, 16, 18, 0, 1, 2] : List Nat).getD k 0
theorem z_iv1 : ∀ i, i < 19 → ziv (tn_LENGTHS_ORDER i) = i ∧ tn_LENGTHS_ORDER i < 19 := by decide +kernel
theorem z_iv2 : ∀ k, k < 19 → tn_LENGTHS_ORDER (ziv k) = k ∧ ziv k < 19 := by decide +kernel
def zcl (f : Nat → Int32) (a told k : Nat) : Nat := if ziv k < told then zbv f (a + 3 * ziv k) 3 else 0
theorem zcl_le (f : Nat → Int32) (a told k : Nat) : zcl f a told k ≤ 15 := by
  unfold zcl
  split
  · have := zbv_lt f (a + 3 * ziv k) 3
    omega
  · omega
theorem zcl_s {f : Nat → Int32} {a told i : Nat} {g : Nat → Int32} {x : Nat} (h : ∀ k, k < 19 → ziv k < i → g k = nI (zcl f a told k)) (hi : i < 19) (hx : x = if i < told then zbv f (a + 3 * i) 3 else 0) : ∀ k, k < 19 → ziv k < i + 1 → upd g (tn_LENGTHS_ORDER i) (nI x) k = nI (zcl f a told k) := by
  intro k hk hz
  by_cases e : k = tn_LENGTHS_ORDER i
  · subst e
    rw [pk_us, hx]
    unfold zcl
    rw [(z_iv1 i hi).1]
  · rw [pk_un e]
    refine h k hk ?_
    rcases Nat.lt_or_ge (ziv k) i with q | q
    · exact q
    · exact absurd (by rw [← (z_iv2 k hk).1, show ziv k = i from by omega]) e
