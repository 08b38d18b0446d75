/-! symbols and copies in the stream -/
def zsl (s : Nat) : Nat := if s < 144 then 8 else if s < 256 then 9 else if s < 280 then 7 else 8
def zsv (V L s : Nat) : Nat := if s < 144 then zhi V L (48 + s) 8 else if s < 256 then zhi V L (400 + s - 144) 9 else if s < 280 then zhi V L (s - 256) 7 else zhi V L (192 + s - 280) 8
theorem zsl_le (s : Nat) : zsl s ≤ 9 := by
  unfold zsl
  split
  · omega
  · split
    · omega
    · split <;> omega
theorem zs_a {V L s : Nat} (h : s < 144) : zsv V L s = zhi V L (48 + s) 8 ∧ zsl s = 8 := ⟨if_pos h, if_pos h⟩
theorem zs_b {V L s : Nat} (h0 : ¬ s < 144) (h : s < 256) : zsv V L s = zhi V L (400 + s - 144) 9 ∧ zsl s = 9 := by
  unfold zsv zsl
  rw [if_neg h0, if_pos h, if_neg h0, if_pos h]
  exact ⟨rfl, rfl⟩
theorem zs_c {V L s : Nat} (h0 : ¬ s < 144) (h1 : ¬ s < 256) (h : s < 280) : zsv V L s = zhi V L (s - 256) 7 ∧ zsl s = 7 := by
  unfold zsv zsl
  rw [if_neg h0, if_neg h1, if_pos h, if_neg h0, if_neg h1, if_pos h]
  exact ⟨rfl, rfl⟩
theorem zs_d {V L s : Nat} (h0 : ¬ s < 144) (h1 : ¬ s < 256) (h : ¬ s < 280) : zsv V L s = zhi V L (192 + s - 280) 8 ∧ zsl s = 8 := by
  unfold zsv zsl
  rw [if_neg h0, if_neg h1, if_neg h, if_neg h0, if_neg h1, if_neg h]
  exact ⟨rfl, rfl⟩
/-- k is the last place whose base isn't above x -/
def zIs (tn : Nat → Nat) (nt x k : Nat) : Prop := k < nt ∧ tn k ≤ x ∧ (k + 1 = nt ∨ x < tn (k + 1))
/-- bytes of x, the highest first -/
def zhf (V L : Nat) (x : Int32) : Nat → Nat
  | 0 => V
  | k + 1 => zhf (V + (x.toBitVec.toNat / 2 ^ (8 * k) % 256) * 2 ^ L) (L + 8) x k
theorem z_shw {k : Nat} (h : k ≤ 4) : ∀ {w : Int32}, w = nI (8 * k) - 8 → ((w < 0 → k = 0) ∧ (¬ w < 0 → ∃ j, k = j + 1 ∧ w = nI (8 * j))) := by
  rintro w rfl
  rcases (show k = 0 ∨ k = 1 ∨ k = 2 ∨ k = 3 ∨ k = 4 by omega) with rfl | rfl | rfl | rfl | rfl
  · exact ⟨fun _ => rfl, fun h => absurd (by decide) h⟩
  · exact ⟨fun h => absurd h (by decide), fun _ => ⟨0, rfl, by decide⟩⟩
  · exact ⟨fun h => absurd h (by decide), fun _ => ⟨1, rfl, by decide⟩⟩
  · exact ⟨fun h => absurd h (by decide), fun _ => ⟨2, rfl, by decide⟩⟩
  · exact ⟨fun h => absurd h (by decide), fun _ => ⟨3, rfl, by decide⟩⟩
theorem z_byte (x : Int32) {k : Nat} (hk : k < 32) : ((x.toUInt32 >>> ((nI k).toUInt32 &&& Int32.toUInt32 31)).toInt32 &&& 255) = nI (x.toBitVec.toNat / 2 ^ k % 256) := by
  rw [pk_and _ (m := 255) 8 (by decide), pk_ushr x (nI k) k (zs_u k hk)]
