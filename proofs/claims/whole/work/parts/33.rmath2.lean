/-! the reference's stream: whole bytes, the last one filled with zeros -/
def zRo (p : Nat → Int32) (V L : Nat) : Prop := V < 2 ^ L ∧ ∀ j, j < (L + 7) / 8 → p j = zby (V / 2 ^ (8 * j))
theorem z_or8 {x b r : Nat} (hr : r < 8) (hx : x < 2 ^ r) (hb : b < 2) : (zby x ||| (nI b <<< (nI r &&& 31)).toInt8.toInt32).toInt8.toInt32 = zby (x + b * 2 ^ r) := by
  have hp : 2 ^ r ≤ 128 := Nat.pow_le_pow_right (n := 2) (by decide) (by omega : r ≤ 7)
  have hm : b * 2 ^ r ≤ 1 * 128 := Nat.mul_le_mul (by omega) hp
  unfold zby
  rw [Int32.toInt8_or, Int8.toInt8_toInt32, Int8.toInt8_toInt32, ← Int32.toInt8_or, z_orsh (by omega) hx (by omega)]
theorem zby_0 : zby 0 = 0 := by decide
theorem z_bit1 {V L b : Nat} (h : V < 2 ^ L) (hb : b < 2) : V + b * 2 ^ L < 2 ^ (L + 1) := zpush_lt h (by omega)
theorem z_last {V L b : Nat} (h : V < 2 ^ L) : (V + b * 2 ^ L) / 2 ^ (8 * (L / 8)) = V / 2 ^ (8 * (L / 8)) + b * 2 ^ (L % 8) := z_push_div
theorem z_vlt {V L : Nat} (h : V < 2 ^ L) : V / 2 ^ (8 * (L / 8)) < 2 ^ (L % 8) := by
  refine Nat.div_lt_of_lt_mul ?_
  rw [← Nat.pow_add, show 8 * (L / 8) + L % 8 = L from by omega]
  exact h
/-- one bit more -/
theorem zRo_s {p q : Nat → Int32} {V L b : Nat} (h : zRo p V L) (hb : b < 2) (hq : ∀ j, j < L / 8 → q j = p j) (hl : q (L / 8) = zby (V / 2 ^ (8 * (L / 8)) + b * 2 ^ (L % 8))) : zRo q (V + b * 2 ^ L) (L + 1) := by
  refine ⟨z_bit1 h.1 hb, fun j hj => ?_⟩
  rcases Nat.lt_or_ge j (L / 8) with c | c
  · rw [hq j c, h.2 j (by omega), z_pushb c]
  · rw [show j = L / 8 from by omega, hl, z_last h.1]
def zlo (V L v : Nat) : Nat → Nat
  | 0 => V
  | k + 1 => zlo V L v k + (v / 2 ^ k % 2) * 2 ^ (L + k)
theorem zlo_eq (V L v : Nat) : ∀ k, zlo V L v k = V + (v % 2 ^ k) * 2 ^ L
  | 0 => by rw [zlo, Nat.pow_zero, Nat.mod_one]; omega
  | k + 1 => by
    rw [zlo, zlo_eq V L v k, Nat.mod_pow_succ, Nat.add_mul, Nat.pow_add, Nat.add_assoc]
    congr 2
    rw [Nat.mul_comm (2 ^ k), Nat.mul_assoc, Nat.mul_comm (2 ^ k)]
theorem zlo_all {V L v k : Nat} (h : v < 2 ^ k) : zlo V L v k = V + v * 2 ^ L := by rw [zlo_eq, Nat.mod_eq_of_lt h]
theorem z_shr {n k : Nat} (h : n < 2 ^ 31) (hk : k < 32) : nI n >>> (nI k &&& 31) = nI (n / 2 ^ k) := pk_shrN h _ k (zs_l k hk)
theorem z_q1 : ∀ k, k < 29 → (k < 8 ∨ k = 28) → tn_LENGTH_EXTRA k = 0 := by decide +kernel
theorem z_q2 : ∀ k, k < 29 → ¬ k < 8 → k ≠ 28 → tn_LENGTH_EXTRA k = k / 4 - 1 := by decide +kernel
theorem z_q3 : ∀ k, k < 8 → tn_LENGTH_BASE k = 3 + k := by decide +kernel
theorem z_q4 : ∀ k, k < 29 → ¬ k < 8 → k ≠ 28 → tn_LENGTH_BASE k = 3 + (4 + k % 4) * 2 ^ (k / 4 - 1) ∧ (4 + k % 4) * 2 ^ (k / 4 - 1) < 100000 := by decide +kernel
theorem z_q5 : ∀ k, k < 4 → tn_DISTANCE_EXTRA k = 0 := by decide +kernel
theorem z_q6 : ∀ k, k < 30 → ¬ k < 4 → tn_DISTANCE_EXTRA k = k / 2 - 1 := by decide +kernel
theorem z_q7 : ∀ k, k < 4 → tn_DISTANCE_BASE k = 1 + k := by decide +kernel
theorem z_q8 : ∀ k, k < 30 → ¬ k < 4 → tn_DISTANCE_BASE k = 1 + (2 + k % 2) * 2 ^ (k / 2 - 1) ∧ (2 + k % 2) * 2 ^ (k / 2 - 1) < 100000 := by decide +kernel
