/-! sets of codes by the lengths of their symbols: how many of each length, where those of a length begin, which symbol stands where -/
def zcnt (ℓ : Nat → Nat) : Nat → Nat → Nat
  | 0, _ => 0
  | n + 1, k => zcnt ℓ n k + (if ℓ n = k then 1 else 0)
theorem zcnt_s (ℓ : Nat → Nat) (n k : Nat) : zcnt ℓ (n + 1) k = zcnt ℓ n k + (if ℓ n = k then 1 else 0) := rfl
theorem zcnt_le (ℓ : Nat → Nat) (k : Nat) : ∀ n, zcnt ℓ n k ≤ n
  | 0 => Nat.le_refl _
  | n + 1 => by
    have h := zcnt_le ℓ k n
    rw [zcnt_s]
    split <;> omega
theorem zcnt_mono (ℓ : Nat → Nat) (k m : Nat) : ∀ d, zcnt ℓ m k ≤ zcnt ℓ (m + d) k
  | 0 => Nat.le_refl _
  | d + 1 => by
    have h := zcnt_mono ℓ k m d
    rw [show m + (d + 1) = (m + d) + 1 from rfl, zcnt_s]
    omega
theorem zcnt_mono' (ℓ : Nat → Nat) (k : Nat) {m n : Nat} (h : m ≤ n) : zcnt ℓ m k ≤ zcnt ℓ n k := by
  have := zcnt_mono ℓ k m (n - m)
  rw [show m + (n - m) = n from by omega] at this
  exact this
theorem zcnt_lt (ℓ : Nat → Nat) {s n : Nat} (h : s < n) : zcnt ℓ s (ℓ s) < zcnt ℓ n (ℓ s) := by
  have h1 := zcnt_mono' ℓ (ℓ s) (show s + 1 ≤ n from h)
  rw [zcnt_s, if_pos rfl] at h1
  omega
def zoff (ℓ : Nat → Nat) (n : Nat) : Nat → Nat
  | 0 => 0
  | k + 1 => zoff ℓ n k + (if k = 0 then 0 else zcnt ℓ n k)
theorem zoff_s (ℓ : Nat → Nat) (n k : Nat) : zoff ℓ n (k + 1) = zoff ℓ n k + (if k = 0 then 0 else zcnt ℓ n k) := rfl
theorem zoff_1 (ℓ : Nat → Nat) (n : Nat) : zoff ℓ n 1 = 0 := rfl
theorem zoff_p (ℓ : Nat → Nat) (n : Nat) {k : Nat} (h : k ≠ 0) : zoff ℓ n (k + 1) = zoff ℓ n k + zcnt ℓ n k := by rw [zoff_s, if_neg h]
theorem zoff_mono (ℓ : Nat → Nat) (n a : Nat) : ∀ d, zoff ℓ n a ≤ zoff ℓ n (a + d)
  | 0 => Nat.le_refl _
  | d + 1 => by
    have h := zoff_mono ℓ n a d
    rw [show a + (d + 1) = (a + d) + 1 from rfl, zoff_s]
    omega
theorem zoff_mono' (ℓ : Nat → Nat) (n : Nat) {a b : Nat} (h : a ≤ b) : zoff ℓ n a ≤ zoff ℓ n b := by
  have := zoff_mono ℓ n a (b - a)
  rw [show a + (b - a) = b from by omega] at this
  exact this
theorem zoff_grow (ℓ : Nat → Nat) (n : Nat) : ∀ K, zoff ℓ (n + 1) K ≤ zoff ℓ n K + (if ℓ n < K then 1 else 0)
  | 0 => by simp [zoff]
  | K + 1 => by
    have h := zoff_grow ℓ n K
    rw [zoff_s, zoff_s, zcnt_s]
    by_cases h0 : K = 0
    · subst h0
      simp only [if_pos]
      have : zoff ℓ (n + 1) 0 = 0 := rfl
      omega
    · rw [if_neg h0, if_neg h0]
      by_cases e : ℓ n = K
      · rw [if_pos e, if_pos (show ℓ n < K + 1 by omega)]
        rw [if_neg (show ¬ ℓ n < K by omega)] at h
        omega
      · rw [if_neg e]
        by_cases e2 : ℓ n < K
        · rw [if_pos (show ℓ n < K + 1 by omega)]
          rw [if_pos e2] at h
          omega
        · rw [if_neg (show ¬ ℓ n < K + 1 by omega)]
          rw [if_neg e2] at h
          omega
theorem zoff_0 (ℓ : Nat → Nat) : ∀ K, zoff ℓ 0 K = 0
  | 0 => rfl
  | K + 1 => by
    rw [zoff_s, zoff_0 ℓ K]
    split <;> rfl
theorem zoff_le (ℓ : Nat → Nat) (K : Nat) : ∀ n, zoff ℓ n K ≤ n
  | 0 => by rw [zoff_0]; exact Nat.le_refl _
  | n + 1 => by
    have h := zoff_le ℓ K n
    have h2 := zoff_grow ℓ n K
    split at h2 <;> omega
def zpos (ℓ : Nat → Nat) (n s : Nat) : Nat := zoff ℓ n (ℓ s) + zcnt ℓ s (ℓ s)
theorem zpos_lt (ℓ : Nat → Nat) {n s : Nat} (h : s < n) (h0 : ℓ s ≠ 0) : zpos ℓ n s < zoff ℓ n (ℓ s + 1) := by
  rw [zoff_p ℓ n h0]
  unfold zpos
  have := zcnt_lt ℓ h
  omega
theorem zpos_lt16 (ℓ : Nat → Nat) {n s : Nat} (h : s < n) (h0 : ℓ s ≠ 0) (h15 : ℓ s ≤ 15) : zpos ℓ n s < zoff ℓ n 16 := Nat.lt_of_lt_of_le (zpos_lt ℓ h h0) (zoff_mono' ℓ n (by omega))
theorem zpos_inj (ℓ : Nat → Nat) {n s t : Nat} (hs : s < n) (ht : t < n) (h0 : ℓ s ≠ 0) (h1 : ℓ t ≠ 0) (e : zpos ℓ n s = zpos ℓ n t) : s = t := by
  rcases Nat.lt_trichotomy (ℓ s) (ℓ t) with h | h | h
  · have a := zpos_lt ℓ hs h0
    have b := zoff_mono' ℓ n (show ℓ s + 1 ≤ ℓ t from h)
    unfold zpos at e a
    omega
  · unfold zpos at e
    rw [h] at e
    have e2 : zcnt ℓ s (ℓ t) = zcnt ℓ t (ℓ t) := by omega
    rcases Nat.lt_trichotomy s t with k | k | k
    · have := zcnt_lt ℓ k
      rw [h] at this
      omega
    · exact k
    · have := zcnt_lt ℓ k
      omega
  · have a := zpos_lt ℓ ht h1
    have b := zoff_mono' ℓ n (show ℓ t + 1 ≤ ℓ s from h)
    unfold zpos at e a
    omega
theorem zcnt_hit (ℓ : Nat → Nat) (k : Nat) : ∀ n r, r < zcnt ℓ n k → ∃ s, s < n ∧ ℓ s = k ∧ zcnt ℓ s k = r
  | 0, r, h => by simp [zcnt] at h
  | n + 1, r, h => by
    rw [zcnt_s] at h
    rcases Nat.lt_or_ge r (zcnt ℓ n k) with h1 | h1
    · obtain ⟨s, a, b, c⟩ := zcnt_hit ℓ k n r h1
      exact ⟨s, by omega, b, c⟩
    · by_cases e : ℓ n = k
      · rw [if_pos e] at h
        exact ⟨n, by omega, e, by omega⟩
      · rw [if_neg e] at h
        omega
theorem zoff_hit (ℓ : Nat → Nat) (n : Nat) : ∀ K j, j < zoff ℓ n K → ∃ k, k ≠ 0 ∧ k < K ∧ zoff ℓ n k ≤ j ∧ j < zoff ℓ n k + zcnt ℓ n k
  | 0, j, h => by simp [zoff] at h
  | K + 1, j, h => by
    rcases Nat.lt_or_ge j (zoff ℓ n K) with h1 | h1
    · obtain ⟨k, a, b, c⟩ := zoff_hit ℓ n K j h1
      exact ⟨k, a, by omega, c⟩
    · rw [zoff_s] at h
      by_cases e : K = 0
      · rw [if_pos e] at h
        omega
      · rw [if_neg e] at h
        exact ⟨K, e, by omega, h1, h⟩
theorem zpos_hit (ℓ : Nat → Nat) (n : Nat) {j : Nat} (h : j < zoff ℓ n 16) : ∃ s, s < n ∧ ℓ s ≠ 0 ∧ ℓ s ≤ 15 ∧ zpos ℓ n s = j := by
  obtain ⟨k, h0, hk, h1, h2⟩ := zoff_hit ℓ n 16 j h
  obtain ⟨s, a, b, c⟩ := zcnt_hit ℓ k n (j - zoff ℓ n k) (by omega)
  refine ⟨s, a, by omega, by omega, ?_⟩
  unfold zpos
  rw [b, c]
  omega
noncomputable def zsym (ℓ : Nat → Nat) (n j : Nat) : Nat := Classical.epsilon (fun s => s < n ∧ ℓ s ≠ 0 ∧ ℓ s ≤ 15 ∧ zpos ℓ n s = j)
theorem zsym_spec (ℓ : Nat → Nat) (n : Nat) {j : Nat} (h : j < zoff ℓ n 16) : zsym ℓ n j < n ∧ ℓ (zsym ℓ n j) ≠ 0 ∧ ℓ (zsym ℓ n j) ≤ 15 ∧ zpos ℓ n (zsym ℓ n j) = j := Classical.epsilon_spec (p := fun s => s < n ∧ ℓ s ≠ 0 ∧ ℓ s ≤ 15 ∧ zpos ℓ n s = j) (zpos_hit ℓ n h)
theorem zsym_all {ℓ : Nat → Nat} {n : Nat} {g : Nat → Int32} (h : ∀ s, s < n → ℓ s ≠ 0 → g (zpos ℓ n s) = nI s) : ∀ j, j < zoff ℓ n 16 → g j = nI (zsym ℓ n j) := by
  intro j hj
  obtain ⟨a, b, c, d⟩ := zsym_spec ℓ n hj
  have := h _ a b
  rw [d] at this
  exact this
/-- what is free of 2 ^ k codes behind the lengths up to k; none: more codes than there are -/
def zfree (c : Nat → Nat) : Nat → Option Nat
  | 0 => some 1
  | k + 1 => match zfree c k with
    | none => none
    | some f => if c (k + 1) ≤ 2 * f then some (2 * f - c (k + 1)) else none
def zallow (ℓ : Nat → Nat) (n : Nat) : Prop := ∃ f, zfree (zcnt ℓ n) 15 = some f ∧ (f = 0 ∨ zoff ℓ n 16 ≤ 1)
/-- a symbol's place and its bits, read from bit a on -/
def zdec (c : Nat → Nat) (f : Nat → Int32) (a : Nat) : Nat → Nat → Nat → Nat → Nat → Option (Nat × Nat)
  | 0, _, _, _, _ => none
  | fu + 1, k, code, first, place => if 2 * code + zbt f (a + k) - 2 * first < c (k + 1) then some (place + (2 * code + zbt f (a + k)) - 2 * first, k + 1) else zdec c f a fu (k + 1) (2 * code + zbt f (a + k)) (2 * first + c (k + 1)) (place + c (k + 1))
/-- a symbol read from bit a on, not beyond bit lim: it, and the bit behind it -/
noncomputable def zrd (ℓ : Nat → Nat) (n : Nat) (f : Nat → Int32) (a lim : Nat) : Option (Nat × Nat) := match zdec (zcnt ℓ n) f a 15 0 0 0 0 with
  | none => none
  | some jk => if a + jk.2 ≤ lim then some (zsym ℓ n jk.1, a + jk.2) else none
