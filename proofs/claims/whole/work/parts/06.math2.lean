/-! what appending four bytes, filling and the sum do, as the code does it -/
def zapk (f : Nat → Int32) (tn : Nat) (x : Int32) : Nat → (Nat → Int32)
  | 0 => f
  | j + 1 => upd (zapk f tn x j) (tn + j) ((x.toUInt32 >>> ((nI (8 * (3 - j))).toUInt32 &&& Int32.toUInt32 31)).toInt32.toInt8.toInt32)
abbrev zap4 (f : Nat → Int32) (tn : Nat) (x : Int32) : Nat → Int32 := zapk f tn x 4
theorem z_w8 {j : Nat} (h : j < 4) : nI (8 * (4 - j)) - 8 = nI (8 * (3 - j)) := (pk_sub (a := 8 * (4 - j)) (b := 8) (by omega)).trans (congrArg nI (by omega))
theorem z_j4 {j : Nat} (h : j ≤ 4) (c : nI (8 * (4 - j)) - 8 < 0) : j = 4 := by
  rcases (show j = 0 ∨ j = 1 ∨ j = 2 ∨ j = 3 ∨ j = 4 by omega) with rfl | rfl | rfl | rfl | rfl
  · exact absurd c (by decide)
  · exact absurd c (by decide)
  · exact absurd c (by decide)
  · exact absurd c (by decide)
  · rfl
theorem z_j3 {j : Nat} (h : j ≤ 4) (c : ¬ nI (8 * (4 - j)) - 8 < 0) : j < 4 := by
  rcases (show j = 4 ∨ j < 4 by omega) with rfl | h
  · exact absurd (by decide) c
  · exact h
theorem z_sh8 {j : Nat} (h : j < 4) : nI (8 * (3 - j)) - 8 = nI (8 * (4 - (j + 1))) - 8 := by rw [show 8 * (4 - (j + 1)) = 8 * (3 - j) from by omega]
def zlcg (s : Int32) : Nat → Int32
  | 0 => s
  | i + 1 => zlcg s i * 1103515245 + 12345
def zfil (f : Nat → Int32) (tn : Nat) (s bd : Int32) : Nat → (Nat → Int32)
  | 0 => f
  | i + 1 => upd (zfil f tn s bd i) (tn + i) ((((zlcg s (i + 1)).toUInt32 >>> ((16 : Int32).toUInt32 &&& Int32.toUInt32 31)).toInt32 - ((zlcg s (i + 1)).toUInt32 >>> ((16 : Int32).toUInt32 &&& Int32.toUInt32 31)).toInt32 / bd * bd).toInt8.toInt32)
/-- the two sums of ADLER-32 over the first i bytes -/
def zad (f : Nat → Int32) : Nat → Int32 × Int32
  | 0 => (1, 0)
  | i + 1 => (((zad f i).1 + (f i &&& 255)) - ((zad f i).1 + (f i &&& 255)) / 65521 * 65521, ((zad f i).2 + (((zad f i).1 + (f i &&& 255)) - ((zad f i).1 + (f i &&& 255)) / 65521 * 65521)) - ((zad f i).2 + (((zad f i).1 + (f i &&& 255)) - ((zad f i).1 + (f i &&& 255)) / 65521 * 65521)) / 65521 * 65521)
def zadler (f : Nat → Int32) (k : Nat) : Int32 := ((zad f k).2 <<< ((16 : Int32) &&& 31)) ||| (zad f k).1
def zwd (f : Nat → Int32) (rn i : Nat) : Nat → Int64
  | 0 => 0
  | j + 1 => (zwd f rn i j <<< ((8 : Int32).toInt64 &&& 63)) ||| ((if i + j < rn then f (i + j) &&& 255 else 0 : Int32).toInt64)
theorem z_patch {tn : Nat} {i : Int32} (h1 : tn ≤ 4000) (h : 0 ≤ i) (h2 : i ≤ nI tn - 1) : ∃ j, j < tn ∧ i = nI j := by
  rcases Nat.eq_zero_or_pos tn with e | e
  · subst e
    exact absurd (Int32.le_trans h h2) (by decide)
  · rw [show nI tn - 1 = nI (tn - 1) from pk_sub (a := tn) (b := 1) e] at h2
    obtain ⟨j, hj, rfl⟩ := nI_of2 (nI_toInt (n := tn - 1) (by omega)) (Int32.not_lt.mpr h) h2
    exact ⟨j, by omega, rfl⟩
theorem z_word {rn : Nat} {i : Int32} (h1 : rn ≤ 8192) (h : ¬ i < 0) (h2 : i < nI rn) : ∃ j, j < rn ∧ i = nI j := by
  obtain ⟨j, hj, rfl⟩ := nI_of h
  exact ⟨j, (nI_ltI hj (by omega)).mp h2, rfl⟩
theorem z_fill {tn : Nat} {k : Int32} (h1 : tn ≤ 4000) (h : 0 ≤ k) (h2 : k ≤ nI (4000 - tn)) : ∃ j, tn + j ≤ 4000 ∧ k = nI j := by
  obtain ⟨j, hj, rfl⟩ := nI_of2 (nI_toInt (n := 4000 - tn) (by omega)) (Int32.not_lt.mpr h) h2
  exact ⟨j, by omega, rfl⟩
theorem zwd_1 {f : Nat → Int32} {rn i j : Nat} (h : i + j < rn) : zwd f rn i (j + 1) = (zwd f rn i j <<< ((8 : Int32).toInt64 &&& 63)) ||| ((f (i + j) &&& 255).toInt64) := by
  show _ ||| ((if i + j < rn then f (i + j) &&& 255 else 0 : Int32).toInt64) = _
  rw [if_pos h]
theorem zwd_0 {f : Nat → Int32} {rn i j : Nat} (h : rn ≤ i + j) : zwd f rn i (j + 1) = (zwd f rn i j <<< ((8 : Int32).toInt64 &&& 63)) ||| ((0 : Int32).toInt64) := by
  show _ ||| ((if i + j < rn then f (i + j) &&& 255 else 0 : Int32).toInt64) = _
  rw [if_neg (by omega)]
