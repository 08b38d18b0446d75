/-- a whole byte more, at a byte's border -/
theorem zOut_byte {g : Nat → Int32} {V L : Nat} {x : Int32} {k : Nat} (h : zOut g V L) (h8 : L % 8 = 0) (hk : k < 32) : zOut (upd g (L / 8) ((x.toUInt32 >>> ((nI k).toUInt32 &&& Int32.toUInt32 31)).toInt32.toInt8.toInt32)) (V + x.toBitVec.toNat / 2 ^ k % 256 * 2 ^ L) (L + 8) := by
  refine ⟨zpush_lt h.1 (Nat.mod_lt _ (by decide)), fun j hj => ?_⟩
  rcases Nat.lt_or_ge j (L / 8) with c | c
  · rw [pk_un (by omega), z_pushb c]
    exact h.2 j c
  · have e : j = L / 8 := by omega
    subst e
    rw [pk_us, z_push_div, h8, Nat.pow_zero, Nat.mul_one]
    have hv : V / 2 ^ (8 * (L / 8)) = 0 := by
      have := z_vlt h.1
      rw [h8] at this
      exact Nat.lt_one_iff.mp this
    rw [hv, Nat.zero_add]
    have e2 : (x.toUInt32 >>> ((nI k).toUInt32 &&& Int32.toUInt32 31)).toInt32 = nI (x.toBitVec.toNat / 2 ^ k) := by
      rw [← z_nat ((x.toUInt32 >>> ((nI k).toUInt32 &&& Int32.toUInt32 31)).toInt32), pk_ushr x (nI k) k (zs_u k hk)]
    rw [e2]
    show zby (x.toBitVec.toNat / 2 ^ k) = _
    have e3 : x.toBitVec.toNat / 2 ^ k = x.toBitVec.toNat / 2 ^ k % 256 + x.toBitVec.toNat / 2 ^ k / 256 * 256 := by omega
    rw [e3, zby_add, ← e3]
theorem zRo_pad {g : Nat → Int32} {V L : Nat} (h : zRo g V L) : zOut g V ((L + 7) / 8 * 8) := by
  refine ⟨Nat.lt_of_lt_of_le h.1 (Nat.pow_le_pow_right (by decide) (by omega)), fun j hj => h.2 j (by omega)⟩
